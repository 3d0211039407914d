/** Promises 24 to 29: what singers pay, and how it is shared. */
public final class MoneyTest {
    private static final Class<?> INDEX = IndexOutOfBoundsException.class;
    private static final Class<?> ARGUMENT = IllegalArgumentException.class;
    private static final Class<?> UNSUPPORTED = UnsupportedOperationException.class;

    public static void main(String[] args) {
        example();
        pay();
        share();
        shareByRank();
        shareWithoutHands();
        shareOfSmallPurses();
        shareOfHandsWithoutSeat();
        shareOfHandsAddedLater();
        cueThatBegan();
        nightOnce();
        nightAndEachCall();
        nothingOwedForNothing();
        notOwedForAnEveningThatANewHouseEnds();
        moreOwedThanCanBePaidAtOnce();
        notMoreThanIsOwed();
        Check.end("MoneyTest");
    }

    private static ClaqueRow withDebt(int night) {
        ClaqueRow x = new ClaqueRow();
        x.newHouse(1, 1);
        x.addSinger(night, 0);
        owe(x);
        return x;
    }

    private static void owe(ClaqueRow x) {
        x.addCue(0, 'c', 0, 1, 1);
        x.run(1);
        x.endEvening();
    }

    private static void example() {
        ClaqueRow x = new ClaqueRow();
        Check.due("example", 1, () -> x.newHouse(1, 1));
        Check.due("example", 0, () -> x.addSinger(30, 5));
        Check.due("example", 0, () -> x.addCue(0, 'w', 0, 1, 2));
        Check.due("example", 2, () -> x.run(2));
        Check.due("example", 30, x::endEvening);
        Check.due("example", 10, () -> x.pay(0, 20));
        Check.due("example", 20, x::purse);
    }

    private static void pay() {
        ClaqueRow x = withDebt(100);
        x.addSinger(5, 0);
        Check.due("P25 owed", 100, () -> x.owed(0));
        Check.due("P25 the other", 0, () -> x.owed(1));
        Check.due("P25 no singer", INDEX, () -> x.owed(2));
        Check.due("P25 no singer", INDEX, () -> x.owed(-1));
        for (int money : new int[] {0, -1, 100000, Integer.MAX_VALUE, Integer.MIN_VALUE}) {
            Check.due("P24 money " + money, ARGUMENT, () -> x.pay(0, money));
            Check.due("P24 the singer comes first", INDEX, () -> x.pay(2, money));
            Check.due("P24 the argument comes first", ARGUMENT, () -> x.pay(1, money));
        }
        Check.due("P24 no singer", INDEX, () -> x.pay(-1, 1));
        Check.due("P24 nothing is owed", UNSUPPORTED, () -> x.pay(1, 1));
        Check.due("P25 wrong changes nothing", 100, () -> x.owed(0));
        Check.due("P26 wrong changes nothing", 0, x::purse);
        Check.due("P24 a part", 99, () -> x.pay(0, 1));
        Check.due("P25 the rest is owed", 99, () -> x.owed(0));
        Check.due("P26 the part", 1, x::purse);
        Check.due("P24 all but one", 1, () -> x.pay(0, 98));
        Check.due("P24 not more than is owed", 0, () -> x.pay(0, 99999));
        Check.due("P26 all of it", 100, x::purse);
        Check.due("P24 nothing is owed", UNSUPPORTED, () -> x.pay(0, 1));
        Check.due("P26 still", 100, x::purse);
        owe(x);
        Check.due("P24 just what is owed", 0, () -> x.pay(0, 100));
        Check.due("P26 two nights", 200, x::purse);
        ClaqueRow y = withDebt(10);
        owe(y);
        Check.due("P25 two nights", 20, () -> y.owed(0));
        Check.due("P24 across nights", 5, () -> y.pay(0, 15));
    }

    private static void share() {
        ClaqueRow x = withDebt(100);
        x.addHand('c', 1, 0, 0);
        Check.due("P27 empty", UNSUPPORTED, x::share);
        x.pay(0, 100);
        Check.due("P29 at first", 0, x::chiefs);
        Check.due("P28 at first", 0, () -> x.moneyOf(0));
        Check.due("P27 100 by 6 is 16", 84, x::share);
        Check.due("P28 one part", 16, () -> x.moneyOf(0));
        Check.due("P29 the rest", 84, x::chiefs);
        Check.due("P26 empty", 0, x::purse);
        Check.due("P27 empty again", UNSUPPORTED, x::share);
        Check.due("P28 still", 16, () -> x.moneyOf(0));
        x.addHand('c', 1, 3, 0);
        owe(x);
        x.pay(0, 50);
        Check.due("P27 50: 5 and 20", 25, x::share);
        Check.due("P28 in all", 21, () -> x.moneyOf(0));
        Check.due("P28 in all", 20, () -> x.moneyOf(1));
        Check.due("P29 in all", 109, x::chiefs);
        Check.due("P25 the rest is owed", 50, () -> x.owed(0));
        Check.due("P28 no hand", INDEX, () -> x.moneyOf(2));
        Check.due("P28 no hand", INDEX, () -> x.moneyOf(-1));
        x.newHouse(1, 1);
        Check.due("P28 stays in a new house", 21, () -> x.moneyOf(0));
        Check.due("P29 stays in a new house", 109, x::chiefs);
        x.pay(0, 1);
        Check.due("P27 1: nothing for hands", 1, x::share);
    }

    private static void shareByRank() {
        ClaqueRow x = withDebt(999);
        for (int i = 0; i < 12; i++) {
            x.addHand('a', 9, i % 4, 0);
        }
        x.pay(0, 999);
        // The parts are 3 times 1 + 2 + 3 + 4, and 5: 35.
        int[] want = {28, 57, 85, 114};
        Check.due("P27 each part is cut", 999 - 3 * (28 + 57 + 85 + 114), x::share);
        for (int i = 0; i < 12; i++) {
            int hand = i;
            Check.due("P28 of rank " + hand % 4, want[hand % 4], () -> x.moneyOf(hand));
        }
    }

    private static void shareWithoutHands() {
        ClaqueRow x = withDebt(12);
        x.pay(0, 12);
        Check.due("P27 all is the chief's", 12, x::share);
        Check.due("P29 all", 12, x::chiefs);
        Check.due("P26 empty", 0, x::purse);
    }

    /** A claque with this purse. */
    private static ClaqueRow withPurse(int money) {
        ClaqueRow x = withDebt(money);
        x.pay(0, money);
        return x;
    }

    /** What a hand of this rank gets of a purse, if it is the only one: the rank and 1, of 5 and the rank and 1. */
    private static void shareOfSmallPurses() {
        int[][] due = {{0, 1, 0}, {0, 5, 0}, {0, 6, 1}, {0, 11, 1}, {0, 12, 2}, {1, 3, 0}, {1, 4, 1}, {2, 2, 0},
            {2, 3, 1}, {3, 2, 0}, {3, 3, 1}, {3, 4, 1}, {3, 5, 2}, {3, 999, 444}, {0, 999, 166}};
        for (int[] d : due) {
            ClaqueRow x = withPurse(d[1]);
            x.addHand('c', 1, d[0], 0);
            String what = "of a purse of " + d[1] + " by rank " + d[0];
            Check.due("P27 the chief keeps the rest " + what, d[1] - d[2], x::share);
            Check.due("P28 cut " + what, d[2], () -> x.moneyOf(0));
            Check.due("P29 the rest " + what, d[1] - d[2], x::chiefs);
            Check.due("P26 empty then " + what, 0, x::purse);
            Check.due("P27 empty then " + what, UNSUPPORTED, x::share);
        }
    }

    private static void shareOfHandsWithoutSeat() {
        ClaqueRow x = withPurse(70);
        x.addHand('c', 1, 0, 0);
        x.addHand('w', 9, 0, 99);
        x.seatHand(1, 0, 0);
        Check.due("P27 70 by 7: two parts for hands", 50, x::share);
        Check.due("P28 without a seat", 10, () -> x.moneyOf(0));
        Check.due("P28 with a seat", 10, () -> x.moneyOf(1));
    }

    private static void shareOfHandsAddedLater() {
        ClaqueRow x = withPurse(60);
        x.addHand('c', 1, 0, 0);
        x.share();
        x.addHand('c', 1, 0, 0);
        Check.due("P28 nothing of what was shared", 0, () -> x.moneyOf(1));
        owe(x);
        x.pay(0, 7);
        Check.due("P27 7 by 7", 5, x::share);
        Check.due("P28 in all", 11, () -> x.moneyOf(0));
        Check.due("P28 in all", 1, () -> x.moneyOf(1));
        Check.due("P29 in all", 55, x::chiefs);
    }

    private static void cueThatBegan() {
        for (int ran = 1; ran <= 3; ran++) {
            for (int tick = 0; tick <= 4; tick++) {
                ClaqueRow x = new ClaqueRow();
                x.newHouse(1, 1);
                x.addSinger(30, 5);
                x.addCue(0, 'c', tick, 1, 1);
                x.run(ran);
                int due = tick < ran ? 30 : 0;
                String what = "by a cue of tick " + tick + ", as " + ran + " went by";
                Check.due("P23 " + what, due, x::endEvening);
                Check.due("P25 " + what, due, () -> x.owed(0));
            }
        }
        ClaqueRow none = new ClaqueRow();
        none.newHouse(1, 1);
        none.addSinger(30, 5);
        none.addCue(0, 'c', 0, 1, 1);
        Check.due("P23 no tick went by", 0, none::endEvening);
        Check.due("P25 no tick went by", 0, () -> none.owed(0));
        none.run(1);
        Check.due("P23 the cue is gone", 0, none::endEvening);
    }

    private static void nightOnce() {
        ClaqueRow x = new ClaqueRow();
        x.newHouse(1, 1);
        x.addSinger(30, 5);
        x.addSinger(400, 5);
        for (int i = 0; i < 11; i++) {
            x.addCue(0, 'c', i, 1, 1);
        }
        x.addCue(1, 'c', 11, 1, 1);
        x.run(11);
        Check.due("P23 eleven cues, one night", 30, x::endEvening);
        Check.due("P25 the other's did not begin", 0, () -> x.owed(1));
    }

    /** A hand who is heard in so many ticks, for a singer of these terms. */
    private static ClaqueRow withCalls(int night, int perCall, int loudTicks) {
        ClaqueRow x = new ClaqueRow();
        x.newHouse(1, 1);
        x.setLevel(1);
        x.addHand('c', 9, 0, 0);
        x.seatHand(0, 0, 0);
        x.addSinger(night, perCall);
        x.addCue(0, 'c', 0, 1, loudTicks);
        x.run(loudTicks + 3);
        return x;
    }

    private static void nightAndEachCall() {
        int[][] due = {{999, 99, 4, 999}, {999, 99, 5, 1098}, {999, 99, 30, 1593}, {0, 99, 10, 198}, {0, 1, 30, 6},
            {999, 0, 30, 999}};
        for (int[] d : due) {
            ClaqueRow x = withCalls(d[0], d[1], d[2]);
            String what = d[0] + " and " + d[1] + " for calls, " + d[2] + " loud ticks";
            Check.due("P23 " + what, d[3], x::endEvening);
            Check.due("P25 " + what, d[3], () -> x.owed(0));
        }
    }

    private static void nothingOwedForNothing() {
        ClaqueRow x = withCalls(0, 99, 4);
        Check.due("P23 neither night nor call", 0, x::endEvening);
        Check.due("P25 neither night nor call", 0, () -> x.owed(0));
        Check.due("P24 neither night nor call", UNSUPPORTED, () -> x.pay(0, 1));
        ClaqueRow y = withCalls(0, 0, 30);
        Check.due("P20 there were calls", 6, y::calls);
        Check.due("P23 of 0 each", 0, y::endEvening);
        Check.due("P24 of 0 each", UNSUPPORTED, () -> y.pay(0, 1));
        ClaqueRow z = withCalls(50, 9, 5);
        Check.due("P25 nothing ahead of the evening's end", 0, () -> z.owed(0));
        Check.due("P24 nothing ahead of the evening's end", UNSUPPORTED, () -> z.pay(0, 1));
    }

    private static void notOwedForAnEveningThatANewHouseEnds() {
        ClaqueRow x = withCalls(50, 9, 5);
        x.newHouse(1, 1);
        Check.due("P25 not for the evening ahead of a new house", 0, () -> x.owed(0));
        Check.due("P23 nor later", 0, x::endEvening);
        owe(x);
        Check.due("P25 but for its own one", 50, () -> x.owed(0));
        x.newHouse(1, 1);
        Check.due("P25 which stays", 50, () -> x.owed(0));
    }

    /** Evenings of 26 calls each, by a hand that payers around it hide; 28 of them are worth more than 99999. */
    private static void moreOwedThanCanBePaidAtOnce() {
        ClaqueRow x = Scene.claque(9);
        x.addSinger(999, 99);
        Scene.seat(x, "111", "1h1", "111");
        x.setLevel(1);
        for (int evening = 0; evening < 28; evening++) {
            for (int i = 0; i < 5; i++) {
                x.addCue(1, 'c', 26 * i, 1, 26);
            }
            x.run(100);
            x.run(31);
            Check.due("P23 26 calls", 999 + 26 * 99, x::endEvening);
        }
        int owed = 28 * (999 + 26 * 99);
        Check.due("P25 more than 99999", true, () -> owed > 99999 && x.owed(1) == owed);
        Check.due("P24 the most at once", owed - 99999, () -> x.pay(1, 99999));
        Check.due("P26 the most at once", 99999, x::purse);
        Check.due("P24 the rest", 0, () -> x.pay(1, 99999));
        Check.due("P26 not more than was owed", owed, x::purse);
        Check.due("P27 by 6", owed - owed / 6, x::share);
        Check.due("P28 by 6", owed / 6, () -> x.moneyOf(0));
    }

    private static void notMoreThanIsOwed() {
        int[][] due = {{49, 1, 49}, {50, 0, 50}, {51, 0, 50}, {99999, 0, 50}};
        for (int[] d : due) {
            ClaqueRow x = withDebt(50);
            Check.due("P24 " + d[0] + " of 50", d[1], () -> x.pay(0, d[0]));
            Check.due("P25 " + d[0] + " of 50", d[1], () -> x.owed(0));
            Check.due("P26 " + d[0] + " of 50", d[2], x::purse);
        }
    }
}
