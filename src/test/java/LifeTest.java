/** "At most 512 calls": lives of so many at most, in each of which one thing goes as far as the calls let it. */
public final class LifeTest {
    private static final int LIFE = 512;

    public static void main(String[] args) {
        longestEvening();
        mostTired();
        mostOwed();
        mostCues();
        mostRefused();
        mostPlans();
        Check.end("LifeTest");
    }

    private static void longestEvening() {
        ClaqueRow x = new ClaqueRow();
        x.newHouse(8, 10);
        for (int i = 1; i < LIFE; i++) {
            int ticks = 100 * i;
            Check.due("the longest evening", ticks, () -> x.run(100));
        }
    }

    /**
     * 72 around is enough for 3 times 1 and 23, not for 3 times 1 and 24: so the payer in the midst joins in 240
     * ticks. Fresh payers round the hands keep suspicions away, as there are not fewer payers than hands.
     */
    private static void mostTired() {
        ClaqueRow x = Scene.claque(9, 9, 9, 9, 9, 9, 9, 9);
        Scene.seat(x, "11111", ".hhh.", ".h1h.", ".hhh.", ".111.");
        for (int from = 0; from < 300; from += 30) {
            x.addCue(0, 'c', from, 1, 30);
        }
        x.run(1);
        for (int joins = 10; joins <= 240; joins += 10) {
            int ticks = joins + 1;
            Check.due("the most tired: ticks", ticks, () -> x.run(10));
            Check.due("the most tired: joins in " + joins + " ticks", 9, () -> x.noiseAt(2, 2));
            Check.due("the most tired: behind " + joins + " ticks", joins / 10, () -> x.tiredness(2, 2));
            if (joins % 30 == 0) {
                seatFreshPayers(x);
            }
        }
        x.run(1);
        Check.due("the most tired: joins no more, 1 less", 8, () -> x.noiseAt(2, 2));
        x.run(10);
        Check.due("the most tired: nor later", 0, () -> x.noiseAt(2, 2));
        Check.due("the most tired: gets no more tired", 24, () -> x.tiredness(2, 2));
        Check.due("the most tired: no suspicion", 0, x::suspicions);
    }

    private static void seatFreshPayers(ClaqueRow x) {
        for (int seat = 0; seat < 5; seat++) {
            x.seatPayer(0, seat, 1);
        }
        for (int seat = 1; seat < 4; seat++) {
            x.seatPayer(4, seat, 1);
        }
    }

    /** Each evening has 30 loud ticks, so 6 calls: 999 and 6 times 99 are owed for it. */
    private static void mostOwed() {
        ClaqueRow x = new ClaqueRow();
        x.newHouse(1, 1);
        x.addHand('a', 9, 3, 0);
        x.addSinger(999, 99);
        x.seatHand(0, 0, 0);
        x.setLevel(9);
        for (int i = 0; i < 167; i++) {
            x.addCue(0, 'c', 0, 1, 30);
            x.run(30);
            Check.due("the most owed: each evening", 1593, x::endEvening);
        }
        Check.due("the most owed: in all", 266031, () -> x.owed(0));
        Check.due("the most owed: paid once", 166032, () -> x.pay(0, 99999));
        Check.due("the most owed: paid twice", 66033, () -> x.pay(0, 99999));
        Check.due("the most owed: the purse", 199998, x::purse);
        Check.due("the most owed: 5 of 9 parts", 111110, x::share);
        Check.due("the most owed: 4 of 9 parts", 88888, () -> x.moneyOf(0));
    }

    private static void mostCues() {
        ClaqueRow x = new ClaqueRow();
        x.newHouse(1, 1);
        x.addSinger(1, 1);
        for (int i = 0; i < 39; i++) {
            for (int cue = 0; cue < 12; cue++) {
                int number = cue;
                Check.due("the most cues: numbered from 0", number, () -> x.addCue(0, 'e', 299, 3, 30));
            }
            Check.due("the most cues: gone with the evening", 0, x::endEvening);
        }
    }

    private static void mostRefused() {
        ClaqueRow x = new ClaqueRow();
        for (int i = 0; i < LIFE - 2; i++) {
            int call = i;
            Check.due("the most refused", i % 2 == 0 ? IllegalStateException.class : IndexOutOfBoundsException.class,
                () -> call % 2 == 0 ? x.run(1) : x.owed(0));
        }
        Check.due("the most refused: a house", 80, () -> x.newHouse(8, 10));
        Check.due("the most refused: the first tick", 1, () -> x.run(1));
    }

    private static void mostPlans() {
        ClaqueRow x = new ClaqueRow();
        for (int hand = 0; hand < 12; hand++) {
            x.addHand('l', 9, 0, 99);
        }
        for (int i = 12; i < LIFE; i++) {
            Check.due("the most plans: 108 is 18 times 6", 12 * 99, () -> x.planCost(18));
        }
    }
}
