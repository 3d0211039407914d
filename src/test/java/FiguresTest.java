import java.math.BigInteger;

/** Promises 32 to 35: the checksum, the shares and soundness. */
public final class FiguresTest {
    private static final Class<?> ARITHMETIC = ArithmeticException.class;

    public static void main(String[] args) {
        checksum();
        checksumOfAnEvening();
        checksumWrapsAround();
        joiningShare();
        meanNoise();
        isSound();
        Check.end("FiguresTest");
    }

    private static long sum(long... numbers) {
        long sum = 7;
        for (long number : numbers) {
            sum = 31 * sum + number;
        }
        return sum;
    }

    private static void checksum() {
        ClaqueRow x = new ClaqueRow();
        Check.due("P32 a new object", 6464647L, x::checksum);
        x.addHand('c', 1, 0, 0);
        Check.due("P32 with a hand", sum(0, 0, 0, 0, 0), x::checksum);
        x.newHouse(2, 3);
        Check.due("P32 with a house", sum(0, 0, 0, 0, 0, 0, 0, 0, 0, 0, 0), x::checksum);
    }

    private static void checksumOfAnEvening() {
        ClaqueRow x = new ClaqueRow();
        x.newHouse(2, 3);
        x.addHand('a', 9, 1, 0);
        x.addHand('c', 7, 0, 0);
        x.addSinger(90, 8);
        x.setLevel(1);
        x.seatHand(0, 0, 0);
        x.seatHand(1, 1, 1);
        x.seatPayer(0, 1, 1);
        x.seatPayer(1, 2, 2);
        x.seatRival(1, 0);
        x.addCue(0, 'c', 0, 1, 30);
        x.run(2);
        Check.due("P32 noises and a hiss", sum(9, 4, 0, 0, 7, 1, 0, 1, 0, 0, 0, 0), x::checksum);
        x.run(3);
        Check.due("P32 a call", sum(x.noiseAt(0, 0), x.noiseAt(0, 1), x.noiseAt(0, 2), x.noiseAt(1, 0),
            x.noiseAt(1, 1), x.noiseAt(1, 2), 1, x.hisses(), 0, 0, 0, 0), x::checksum);
        x.endEvening();
        x.pay(0, 80);
        Check.due("P32 the purse", sum(0, 0, 0, 0, 0, 0, 0, 0, 80, 0, 0, 0), x::checksum);
        x.share();
        Check.due("P32 the chief's and the hands'", sum(0, 0, 0, 0, 0, 0, 0, 0, 0, 50, 20, 10), x::checksum);
        x.pay(0, 3);
        Check.due("P32 all of it", sum(0, 0, 0, 0, 0, 0, 0, 0, 3, 50, 20, 10), x::checksum);
        x.newHouse(1, 1);
        Check.due("P32 a smaller house", sum(0, 0, 0, 3, 50, 20, 10), x::checksum);
    }

    /** 31 times itself for 80 seats, 4 numbers and 12 hands is far more than a long holds. */
    private static void checksumWrapsAround() {
        ClaqueRow x = new ClaqueRow();
        x.newHouse(8, 10);
        x.addSinger(999, 99);
        for (int i = 0; i < 12; i++) {
            x.addHand('a', 9, i % 4, 0);
            x.seatHand(i, i / 2, 9 * (i % 2));
        }
        x.addCue(0, 'c', 0, 1, 1);
        x.run(1);
        x.endEvening();
        x.pay(0, 999);
        x.share();
        x.addCue(0, 'c', 0, 1, 6);
        x.run(5);
        BigInteger sum = BigInteger.valueOf(7);
        for (int place = 0; place < 80; place++) {
            boolean hand = place < 60 && (place % 10 == 0 || place % 10 == 9);
            sum = next(sum, hand ? 9 : 0);
        }
        for (int number : new int[] {1, 0, 0, 999 - 3 * (28 + 57 + 85 + 114)}) {
            sum = next(sum, number);
        }
        for (int hand = 0; hand < 12; hand++) {
            sum = next(sum, new int[] {28, 57, 85, 114}[hand % 4]);
        }
        Check.due("P32 more than a long holds", sum.longValue(), x::checksum);
        Check.due("P32 the same again", sum.longValue(), x::checksum);
    }

    private static BigInteger next(BigInteger sum, int number) {
        return sum.multiply(BigInteger.valueOf(31)).add(BigInteger.valueOf(number));
    }

    private static void joiningShare() {
        ClaqueRow x = new ClaqueRow();
        Check.due("P33 no house", ARITHMETIC, x::joiningShare);
        x.newHouse(1, 6);
        Check.due("P33 no payers", ARITHMETIC, x::joiningShare);
        x.seatRival(0, 5);
        x.addHand('a', 9, 0, 0);
        x.addSinger(0, 0);
        x.seatHand(0, 0, 1);
        Check.due("P33 a rival and a hand are none", ARITHMETIC, x::joiningShare);
        x.seatPayer(0, 0, 1);
        x.seatPayer(0, 2, 4);
        x.seatPayer(0, 4, 1);
        Check.due("P33 none joined", 0.0f, x::joiningShare);
        x.addCue(0, 'c', 0, 1, 30);
        x.run(2);
        Check.due("P33 one of three", 1.0f / 3.0f, x::joiningShare);
        x.seatPayer(0, 2, 1);
        x.run(1);
        Check.due("P33 two of three", 2.0f / 3.0f, x::joiningShare);
        x.clearSeat(0, 4);
        Check.due("P33 all of those who are left", 1.0f, x::joiningShare);
        x.endEvening();
        Check.due("P33 none behind the evening", 0.0f, x::joiningShare);
        x.newHouse(1, 6);
        Check.due("P33 none in a new house", ARITHMETIC, x::joiningShare);
    }

    private static void meanNoise() {
        ClaqueRow x = new ClaqueRow();
        Check.due("P34 no house", ARITHMETIC, x::meanNoise);
        x.newHouse(1, 7);
        Check.due("P34 empty seats", 0.0, x::meanNoise);
        x.addHand('a', 5, 0, 0);
        x.addSinger(0, 0);
        x.seatHand(0, 0, 1);
        x.addCue(0, 'c', 0, 1, 30);
        x.run(1);
        Check.due("P34 5 of 7 seats", 5.0 / 7.0, x::meanNoise);
        x.newHouse(8, 10);
        x.seatHand(0, 7, 9);
        x.addCue(0, 'c', 0, 1, 30);
        x.run(1);
        Check.due("P34 5 of 80 seats", 0.0625, x::meanNoise);
        x.clearSeat(7, 9);
        Check.due("P34 of those who are seated now", 0.0, x::meanNoise);
    }

    private static void isSound() {
        ClaqueRow x = new ClaqueRow();
        Check.due("P35 at first", true, x::isSound);
        x.newHouse(2, 2);
        x.addHand('a', 9, 0, 0);
        x.addHand('a', 9, 0, 0);
        x.addSinger(9, 9);
        x.seatHand(0, 0, 0);
        x.seatHand(1, 0, 0);
        x.seatHand(0, 1, 1);
        x.seatPayer(0, 1, 1);
        Check.due("P35 seated", true, x::isSound);
        x.addCue(0, 'c', 0, 3, 30);
        x.run(9);
        Check.due("P35 in the evening", true, x::isSound);
        x.endEvening();
        Check.due("P35 behind it", true, x::isSound);
        x.pay(0, 9);
        Check.due("P35 with a purse", true, x::isSound);
        x.share();
        Check.due("P35 with shares", true, x::isSound);
        x.newHouse(1, 1);
        Check.due("P35 in a new house", true, x::isSound);
    }
}
