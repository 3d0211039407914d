/** Promises 1 to 7: the new object, the house and its seats. */
public final class HouseTest {
    private static final Class<?> INDEX = IndexOutOfBoundsException.class;
    private static final Class<?> ARGUMENT = IllegalArgumentException.class;
    private static final Class<?> UNSUPPORTED = UnsupportedOperationException.class;

    public static void main(String[] args) {
        newObject();
        newHouse();
        newHouseBeginsAnew();
        firstHouseBeginsAnewToo();
        newHouseOfTheSameSize();
        seatPayer();
        seatRival();
        seatHand();
        clearSeat();
        seatAt();
        whoIsSeatedAnewIsSilent();
        Check.end("HouseTest");
    }

    private static void newObject() {
        ClaqueRow x = new ClaqueRow();
        Check.due("P1 no seat", INDEX, () -> x.seatAt(0, 0));
        Check.due("P1 no hand", INDEX, () -> x.isSeated(0));
        Check.due("P1 no hand's money", INDEX, () -> x.moneyOf(0));
        Check.due("P1 no singer", INDEX, () -> x.owed(0));
        Check.due("P1 no singer's calls", INDEX, () -> x.callsOf(0));
        Check.due("P1 noise", 0, x::noise);
        Check.due("P1 joining", 0, x::joining);
        Check.due("P1 hisses", 0, x::hisses);
        Check.due("P1 calls", 0, x::calls);
        Check.due("P1 suspicions", 0, x::suspicions);
        Check.due("P1 found out", false, x::areFoundOut);
        Check.due("P1 purse", 0, x::purse);
        Check.due("P1 chiefs", 0, x::chiefs);
        Check.due("P1 first level", 40, () -> x.setLevel(1));
        Check.due("P1 no house to run", IllegalStateException.class, () -> x.run(1));
    }

    private static void newHouse() {
        ClaqueRow x = new ClaqueRow();
        int[][] wrong = {{0, 1}, {1, 0}, {9, 1}, {1, 11}, {-1, 5}, {5, -1},
            {Integer.MAX_VALUE, 2}, {2, Integer.MAX_VALUE}, {Integer.MIN_VALUE, 2}, {65536, 65536}};
        for (int[] w : wrong) {
            Check.due("P2 newHouse(" + w[0] + ", " + w[1] + ")", ARGUMENT, () -> x.newHouse(w[0], w[1]));
        }
        Check.due("P2 still no house", INDEX, () -> x.seatAt(0, 0));
        Check.due("P2 the smallest", 1, () -> x.newHouse(1, 1));
        Check.due("P2 one row", 10, () -> x.newHouse(1, 10));
        Check.due("P2 one column", 8, () -> x.newHouse(8, 1));
        Check.due("P2 the largest", 80, () -> x.newHouse(8, 10));
        for (int row = 0; row < 8; row++) {
            for (int seat = 0; seat < 10; seat++) {
                int r = row;
                int s = seat;
                Check.due("P2 empty", '.', () -> x.seatAt(r, s));
                Check.due("P2 rival", '.', () -> x.seatRival(r, s));
            }
        }
        Check.due("P2 wrong changes nothing", ARGUMENT, () -> x.newHouse(8, 11));
        Check.due("P2 still the rival", 'r', () -> x.seatAt(7, 9));
        Check.due("P2 2 by 3", 6, () -> x.newHouse(2, 3));
        Check.due("P2 emptied", '.', () -> x.seatAt(1, 2));
        Check.due("P2 no third row", INDEX, () -> x.seatAt(2, 0));
        Check.due("P2 no fourth seat", INDEX, () -> x.seatAt(0, 3));
        x.newHouse(8, 10);
        Check.due("P2 all is empty", '.', () -> x.seatAt(7, 9));
        Check.due("P2 all is empty", '.', () -> x.seatAt(0, 0));
    }

    private static void newHouseBeginsAnew() {
        ClaqueRow x = new ClaqueRow();
        x.newHouse(1, 3);
        x.addSinger(50, 7);
        x.addHand('a', 9, 0, 0);
        x.addHand('a', 9, 0, 0);
        x.seatHand(0, 0, 0);
        x.seatHand(1, 0, 2);
        x.seatRival(0, 1);
        x.setLevel(1);
        x.addCue(0, 'c', 0, 1, 6);
        x.addCue(0, 'c', 0, 1, 6);
        x.addCue(0, 'c', 0, 1, 6);
        Check.due("P2 ticks", 6, () -> x.run(6));
        Check.due("P2 hisses", 5, x::hisses);
        Check.due("P2 calls", 1, x::calls);
        Check.due("P2 found out", true, x::areFoundOut);
        Check.due("P2 wrong keeps the evening", ARGUMENT, () -> x.newHouse(0, 0));
        Check.due("P2 wrong keeps the hisses", 5, x::hisses);
        Check.due("P2 wrong keeps the seat", true, () -> x.isSeated(0));
        Check.due("P2 new house", 4, () -> x.newHouse(2, 2));
        Check.due("P2 hisses gone", 0, x::hisses);
        Check.due("P2 calls gone", 0, x::calls);
        Check.due("P2 singer's calls gone", 0, () -> x.callsOf(0));
        Check.due("P2 suspicions gone", 0, x::suspicions);
        Check.due("P2 no more found out", false, x::areFoundOut);
        Check.due("P2 noise gone", 0, x::noise);
        Check.due("P2 nothing is owed", 0, () -> x.owed(0));
        Check.due("P2 hand 0 has no seat", false, () -> x.isSeated(0));
        Check.due("P2 hand 1 has no seat", false, () -> x.isSeated(1));
        Check.due("P2 cues gone", 0, () -> x.addCue(0, 'c', 0, 1, 1));
        Check.due("P2 ticks begin from 0", 1, () -> x.run(1));
        Check.due("P2 the level stays", 1, () -> x.setLevel(40));
        Check.due("P2 the hand may be seated", '.', () -> x.seatHand(0, 0, 0));

        ClaqueRow y = new ClaqueRow();
        y.newHouse(1, 1);
        y.addSinger(50, 7);
        y.addHand('a', 9, 0, 0);
        y.setLevel(9);
        y.seatHand(0, 0, 0);
        y.addCue(0, 'c', 0, 1, 30);
        y.run(4);
        y.newHouse(1, 1);
        y.seatHand(0, 0, 0);
        y.addCue(0, 'c', 0, 1, 30);
        y.run(4);
        Check.due("P2 loud ticks are counted anew", 0, y::calls);
        y.run(1);
        Check.due("P2 five of the new evening", 1, y::calls);
        y.endEvening();
        Check.due("P2 what was owed stays", 57, () -> y.owed(0));
        y.newHouse(1, 1);
        Check.due("P2 what was owed stays", 57, () -> y.owed(0));
    }

    /** What was added ahead of the first house: cues are gone as in any new house, all else stays. */
    private static void firstHouseBeginsAnewToo() {
        ClaqueRow x = Scene.claque(9);
        x.setLevel(7);
        Check.due("P2 a cue without a house", 0, () -> x.addCue(0, 'c', 0, 1, 30));
        Check.due("P2 another one", 1, () -> x.addCue(0, 'c', 1, 1, 30));
        x.newHouse(1, 1);
        x.seatHand(0, 0, 0);
        x.run(1);
        Check.due("P2 they are gone", 0, x::noise);
        Check.due("P2 numbers from 0", 0, () -> x.addCue(0, 'c', 1, 1, 30));
        x.run(1);
        Check.due("P2 the hand stays", 9, x::noise);
        Check.due("P2 the singer stays", 50, x::endEvening);
        Check.due("P2 the level stays", 7, () -> x.setLevel(7));
    }

    private static void newHouseOfTheSameSize() {
        ClaqueRow x = Scene.claque(9);
        Scene.seat(x, "h1", "r1");
        x.addCue(0, 'c', 0, 1, 30);
        x.run(12);
        x.newHouse(2, 2);
        for (int place = 0; place < 4; place++) {
            int row = place / 2;
            int seat = place % 2;
            Check.due("P2 empty", '.', () -> x.seatAt(row, seat));
            Check.due("P2 silent", 0, () -> x.noiseAt(row, seat));
        }
        Check.due("P2 none joining", 0, x::joining);
        x.seatPayer(0, 1, 1);
        Check.due("P2 not tired", 0, () -> x.tiredness(0, 1));
        x.run(1);
        Check.due("P2 nothing of the tick ahead", 0, x::noise);
    }

    private static void seatPayer() {
        ClaqueRow x = new ClaqueRow();
        Check.due("P3 no house", INDEX, () -> x.seatPayer(0, 0, 1));
        Check.due("P3 no house and no threshold", INDEX, () -> x.seatPayer(0, 0, 0));
        x.newHouse(2, 3);
        x.addHand('c', 1, 0, 0);
        Check.due("P3 nobody", '.', () -> x.seatPayer(1, 2, 1));
        Check.due("P3 payer", 'p', () -> x.seatPayer(1, 2, 9));
        x.seatRival(1, 2);
        Check.due("P3 rival", 'r', () -> x.seatPayer(1, 2, 9));
        x.seatHand(0, 1, 2);
        Check.due("P3 hand", 'h', () -> x.seatPayer(1, 2, 9));
        Check.due("P3 the hand has no seat", false, () -> x.isSeated(0));
        Check.due("P3 a payer is there", 'p', () -> x.seatAt(1, 2));
        x.seatHand(0, 1, 1);
        int[][] noSeat = {{-1, 0}, {0, -1}, {2, 0}, {0, 3}, {Integer.MIN_VALUE, 0}, {Integer.MAX_VALUE, 0},
            {0, Integer.MAX_VALUE}, {0, Integer.MIN_VALUE}};
        for (int[] s : noSeat) {
            Check.due("P3 no seat", INDEX, () -> x.seatPayer(s[0], s[1], 1));
            Check.due("P3 the seat comes first", INDEX, () -> x.seatPayer(s[0], s[1], 0));
        }
        for (int t : new int[] {0, 10, -1, Integer.MAX_VALUE, Integer.MIN_VALUE}) {
            Check.due("P3 threshold " + t, ARGUMENT, () -> x.seatPayer(1, 1, t));
        }
        Check.due("P3 wrong changes nothing", 'h', () -> x.seatAt(1, 1));
        Check.due("P3 wrong changes nothing", true, () -> x.isSeated(0));
    }

    private static void seatRival() {
        ClaqueRow x = new ClaqueRow();
        Check.due("P4 no house", INDEX, () -> x.seatRival(0, 0));
        x.newHouse(2, 3);
        x.addHand('c', 1, 0, 0);
        Check.due("P4 nobody", '.', () -> x.seatRival(0, 2));
        Check.due("P4 rival", 'r', () -> x.seatRival(0, 2));
        x.seatPayer(0, 2, 3);
        Check.due("P4 payer", 'p', () -> x.seatRival(0, 2));
        x.seatHand(0, 0, 2);
        Check.due("P4 hand", 'h', () -> x.seatRival(0, 2));
        Check.due("P4 the hand has no seat", false, () -> x.isSeated(0));
        Check.due("P4 a rival is there", 'r', () -> x.seatAt(0, 2));
        Check.due("P4 no row", INDEX, () -> x.seatRival(2, 0));
        Check.due("P4 no row", INDEX, () -> x.seatRival(-1, 0));
        Check.due("P4 no seat", INDEX, () -> x.seatRival(0, 3));
        Check.due("P4 no seat", INDEX, () -> x.seatRival(0, -1));
    }

    private static void seatHand() {
        ClaqueRow x = new ClaqueRow();
        Check.due("P5 no hand", INDEX, () -> x.seatHand(0, 0, 0));
        x.addHand('c', 1, 0, 0);
        Check.due("P5 no house", INDEX, () -> x.seatHand(0, 0, 0));
        x.addHand('c', 1, 0, 0);
        x.newHouse(2, 3);
        Check.due("P5 nobody", '.', () -> x.seatHand(0, 0, 0));
        Check.due("P5 it is there", UNSUPPORTED, () -> x.seatHand(0, 0, 0));
        Check.due("P5 still there", 'h', () -> x.seatAt(0, 0));
        Check.due("P5 still seated", true, () -> x.isSeated(0));
        Check.due("P5 moves", '.', () -> x.seatHand(0, 1, 2));
        Check.due("P5 the seat before is empty", '.', () -> x.seatAt(0, 0));
        Check.due("P5 it sits in the new one", 'h', () -> x.seatAt(1, 2));
        Check.due("P5 over a hand", 'h', () -> x.seatHand(1, 1, 2));
        Check.due("P5 that one has no seat", false, () -> x.isSeated(0));
        Check.due("P5 this one has", true, () -> x.isSeated(1));
        Check.due("P5 back over it", 'h', () -> x.seatHand(0, 1, 2));
        Check.due("P5 the other has none", false, () -> x.isSeated(1));
        x.seatPayer(0, 1, 1);
        Check.due("P5 over a payer", 'p', () -> x.seatHand(0, 0, 1));
        x.seatRival(0, 2);
        Check.due("P5 over a rival", 'r', () -> x.seatHand(0, 0, 2));
        Check.due("P5 no hand", INDEX, () -> x.seatHand(2, 0, 0));
        Check.due("P5 no hand", INDEX, () -> x.seatHand(-1, 0, 0));
        Check.due("P5 no row", INDEX, () -> x.seatHand(0, 2, 0));
        Check.due("P5 no row", INDEX, () -> x.seatHand(0, -1, 0));
        Check.due("P5 no seat", INDEX, () -> x.seatHand(0, 0, 3));
        Check.due("P5 no seat", INDEX, () -> x.seatHand(0, 0, -1));
        Check.due("P5 wrong changes nothing", 'h', () -> x.seatAt(0, 2));
        x.clearSeat(0, 2);
        Check.due("P5 back in the seat that was cleared", '.', () -> x.seatHand(0, 0, 2));
    }

    private static void clearSeat() {
        ClaqueRow x = new ClaqueRow();
        Check.due("P6 no house", INDEX, () -> x.clearSeat(0, 0));
        x.newHouse(2, 3);
        x.addHand('c', 1, 0, 0);
        Check.due("P6 nobody", '.', () -> x.clearSeat(1, 1));
        x.seatPayer(1, 1, 1);
        Check.due("P6 payer", 'p', () -> x.clearSeat(1, 1));
        x.seatRival(1, 1);
        Check.due("P6 rival", 'r', () -> x.clearSeat(1, 1));
        x.seatHand(0, 1, 1);
        Check.due("P6 hand", 'h', () -> x.clearSeat(1, 1));
        Check.due("P6 the hand has no seat", false, () -> x.isSeated(0));
        Check.due("P6 empty", '.', () -> x.seatAt(1, 1));
        Check.due("P6 no row", INDEX, () -> x.clearSeat(2, 0));
        Check.due("P6 no row", INDEX, () -> x.clearSeat(-1, 0));
        Check.due("P6 no seat", INDEX, () -> x.clearSeat(0, 3));
        Check.due("P6 no seat", INDEX, () -> x.clearSeat(0, -1));
    }

    private static void seatAt() {
        ClaqueRow x = new ClaqueRow();
        x.newHouse(8, 10);
        x.addHand('c', 1, 0, 0);
        x.seatPayer(0, 9, 1);
        x.seatRival(1, 0);
        x.seatHand(0, 7, 9);
        Check.due("P7 payer", 'p', () -> x.seatAt(0, 9));
        Check.due("P7 rival", 'r', () -> x.seatAt(1, 0));
        Check.due("P7 hand", 'h', () -> x.seatAt(7, 9));
        Check.due("P7 nobody", '.', () -> x.seatAt(0, 0));
        Check.due("P7 no row", INDEX, () -> x.seatAt(8, 0));
        Check.due("P7 no row", INDEX, () -> x.seatAt(-1, 0));
        Check.due("P7 no seat, though a next row", INDEX, () -> x.seatAt(0, 10));
        Check.due("P7 no seat, though a row ahead", INDEX, () -> x.seatAt(1, -1));
        Check.due("P7 far", INDEX, () -> x.seatAt(Integer.MAX_VALUE, Integer.MAX_VALUE));
        Check.due("P7 far", INDEX, () -> x.seatAt(Integer.MIN_VALUE, Integer.MIN_VALUE));
    }

    private static void whoIsSeatedAnewIsSilent() {
        ClaqueRow x = new ClaqueRow();
        x.newHouse(1, 3);
        x.addSinger(0, 0);
        x.addHand('c', 9, 0, 0);
        x.seatHand(0, 0, 0);
        x.seatPayer(0, 1, 1);
        x.addCue(0, 'c', 0, 1, 30);
        x.run(12);
        Check.due("the hand is heard", 9, () -> x.noiseAt(0, 0));
        Check.due("the payer is heard", 2, () -> x.noiseAt(0, 1));
        Check.due("the payer is tired", 1, () -> x.tiredness(0, 1));
        x.seatPayer(0, 1, 1);
        Check.due("a payer seated anew is silent", 0, () -> x.noiseAt(0, 1));
        Check.due("and did not join", 0, x::joining);
        Check.due("and is not tired", 0, () -> x.tiredness(0, 1));
        x.seatHand(0, 0, 2);
        Check.due("a hand that moved is silent", 0, () -> x.noiseAt(0, 2));
        Check.due("and so is its seat before", 0, () -> x.noiseAt(0, 0));
        x.run(1);
        Check.due("nothing was around the payer", 0, () -> x.noiseAt(0, 1));
        Check.due("the hand is heard from its new seat", 9, () -> x.noiseAt(0, 2));
        x.clearSeat(0, 2);
        Check.due("an empty seat is silent", 0, () -> x.noiseAt(0, 2));
        x.seatRival(0, 1);
        Check.due("no noise", 0, x::noise);
    }
}
