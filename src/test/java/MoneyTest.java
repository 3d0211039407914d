/** Promises 24 to 29: what singers pay, and how it is shared. */
public final class MoneyTest {
    private static final Class<?> INDEX = IndexOutOfBoundsException.class;
    private static final Class<?> ARGUMENT = IllegalArgumentException.class;
    private static final Class<?> UNSUPPORTED = UnsupportedOperationException.class;

    public static void main(String[] args) {
        example();
        pay();
        share();
        shareByRank();
        shareWithoutHands();
        Check.end("MoneyTest");
    }

    private static ClaqueRow withDebt(int night) {
        ClaqueRow x = new ClaqueRow();
        x.newHouse(1, 1);
        x.addSinger(night, 0);
        owe(x);
        return x;
    }

    private static void owe(ClaqueRow x) {
        x.addCue(0, 'c', 0, 1, 1);
        x.run(1);
        x.endEvening();
    }

    private static void example() {
        ClaqueRow x = new ClaqueRow();
        Check.due("example", 1, () -> x.newHouse(1, 1));
        Check.due("example", 0, () -> x.addSinger(30, 5));
        Check.due("example", 0, () -> x.addCue(0, 'w', 0, 1, 2));
        Check.due("example", 2, () -> x.run(2));
        Check.due("example", 30, x::endEvening);
        Check.due("example", 10, () -> x.pay(0, 20));
        Check.due("example", 20, x::purse);
    }

    private static void pay() {
        ClaqueRow x = withDebt(100);
        x.addSinger(5, 0);
        Check.due("P25 owed", 100, () -> x.owed(0));
        Check.due("P25 the other", 0, () -> x.owed(1));
        Check.due("P25 no singer", INDEX, () -> x.owed(2));
        Check.due("P25 no singer", INDEX, () -> x.owed(-1));
        for (int money : new int[] {0, -1, 100000, Integer.MAX_VALUE, Integer.MIN_VALUE}) {
            Check.due("P24 money " + money, ARGUMENT, () -> x.pay(0, money));
            Check.due("P24 the singer comes first", INDEX, () -> x.pay(2, money));
            Check.due("P24 the argument comes first", ARGUMENT, () -> x.pay(1, money));
        }
        Check.due("P24 no singer", INDEX, () -> x.pay(-1, 1));
        Check.due("P24 nothing is owed", UNSUPPORTED, () -> x.pay(1, 1));
        Check.due("P25 wrong changes nothing", 100, () -> x.owed(0));
        Check.due("P26 wrong changes nothing", 0, x::purse);
        Check.due("P24 a part", 99, () -> x.pay(0, 1));
        Check.due("P25 the rest is owed", 99, () -> x.owed(0));
        Check.due("P26 the part", 1, x::purse);
        Check.due("P24 all but one", 1, () -> x.pay(0, 98));
        Check.due("P24 not more than is owed", 0, () -> x.pay(0, 99999));
        Check.due("P26 all of it", 100, x::purse);
        Check.due("P24 nothing is owed", UNSUPPORTED, () -> x.pay(0, 1));
        Check.due("P26 still", 100, x::purse);
        owe(x);
        Check.due("P24 just what is owed", 0, () -> x.pay(0, 100));
        Check.due("P26 two nights", 200, x::purse);
        ClaqueRow y = withDebt(10);
        owe(y);
        Check.due("P25 two nights", 20, () -> y.owed(0));
        Check.due("P24 across nights", 5, () -> y.pay(0, 15));
    }

    private static void share() {
        ClaqueRow x = withDebt(100);
        x.addHand('c', 1, 0, 0);
        Check.due("P27 empty", UNSUPPORTED, x::share);
        x.pay(0, 100);
        Check.due("P29 at first", 0, x::chiefs);
        Check.due("P28 at first", 0, () -> x.moneyOf(0));
        Check.due("P27 100 by 6 is 16", 84, x::share);
        Check.due("P28 one part", 16, () -> x.moneyOf(0));
        Check.due("P29 the rest", 84, x::chiefs);
        Check.due("P26 empty", 0, x::purse);
        Check.due("P27 empty again", UNSUPPORTED, x::share);
        Check.due("P28 still", 16, () -> x.moneyOf(0));
        x.addHand('c', 1, 3, 0);
        owe(x);
        x.pay(0, 50);
        Check.due("P27 50: 5 and 20", 25, x::share);
        Check.due("P28 in all", 21, () -> x.moneyOf(0));
        Check.due("P28 in all", 20, () -> x.moneyOf(1));
        Check.due("P29 in all", 109, x::chiefs);
        Check.due("P25 the rest is owed", 50, () -> x.owed(0));
        Check.due("P28 no hand", INDEX, () -> x.moneyOf(2));
        Check.due("P28 no hand", INDEX, () -> x.moneyOf(-1));
        x.newHouse(1, 1);
        Check.due("P28 stays in a new house", 21, () -> x.moneyOf(0));
        Check.due("P29 stays in a new house", 109, x::chiefs);
        x.pay(0, 1);
        Check.due("P27 1: nothing for hands", 1, x::share);
    }

    private static void shareByRank() {
        ClaqueRow x = withDebt(999);
        for (int i = 0; i < 12; i++) {
            x.addHand('a', 9, i % 4, 0);
        }
        x.pay(0, 999);
        // The parts are 3 times 1 + 2 + 3 + 4, and 5: 35.
        int[] want = {28, 57, 85, 114};
        Check.due("P27 each part is cut", 999 - 3 * (28 + 57 + 85 + 114), x::share);
        for (int i = 0; i < 12; i++) {
            int hand = i;
            Check.due("P28 of rank " + hand % 4, want[hand % 4], () -> x.moneyOf(hand));
        }
    }

    private static void shareWithoutHands() {
        ClaqueRow x = withDebt(12);
        x.pay(0, 12);
        Check.due("P27 all is the chief's", 12, x::share);
        Check.due("P29 all", 12, x::chiefs);
        Check.due("P26 empty", 0, x::purse);
    }
}
