import java.util.NoSuchElementException;
import java.util.function.Consumer;
import java.util.function.Supplier;

/**
 * "A method that throws an exception changes nothing": each call, for each ground of refusal and each argument, in
 * the midst of an evening. What the claque tells then, and in the ticks to come, is what its twin tells that has not
 * been called.
 */
public final class RefusedTest {
    private static final Class<?> INDEX = IndexOutOfBoundsException.class;
    private static final Class<?> ARGUMENT = IllegalArgumentException.class;
    private static final Class<?> UNSUPPORTED = UnsupportedOperationException.class;
    private static final Class<?> STATE = IllegalStateException.class;
    private static final Class<?> NONE = NoSuchElementException.class;
    private static final Class<?> ARITHMETIC = ArithmeticException.class;

    private interface SeatCall {
        void with(ClaqueRow x, int row, int seat);
    }

    public static void main(String[] args) {
        theSceneIsBusy();
        houseAndSeats();
        hands();
        singersAndCues();
        evenings();
        money();
        plans();
        figures();
        Check.end("RefusedTest");
    }

    /**
     * Two rows of three seats with all kinds of people in them, nine ticks gone by, two suspicions, a payer who is
     * tired when it joins once more, four loud ticks since the last call, a cue that is on and one to come, debts, a
     * purse and shares.
     */
    private static ClaqueRow busy() {
        ClaqueRow x = new ClaqueRow();
        x.newHouse(2, 3);
        x.addHand('a', 9, 1, 5);
        x.addHand('c', 7, 0, 9);
        x.addHand('w', 3, 3, 2);
        x.addSinger(90, 8);
        x.addSinger(70, 0);
        x.addCue(0, 'c', 0, 1, 2);
        x.run(2);
        x.endEvening();
        x.pay(0, 80);
        x.share();
        x.pay(0, 3);
        x.setLevel(9);
        x.seatHand(0, 0, 0);
        x.seatHand(1, 1, 1);
        x.seatPayer(0, 1, 1);
        x.seatPayer(1, 2, 2);
        x.seatRival(1, 0);
        x.addCue(0, 'c', 0, 1, 12);
        x.addCue(1, 'w', 0, 1, 1);
        x.addCue(1, 'l', 0, 3, 1);
        x.addCue(1, 'e', 12, 2, 3);
        x.run(9);
        return x;
    }

    private static ClaqueRow full() {
        ClaqueRow x = busy();
        for (int i = 3; i < 12; i++) {
            x.addHand('l', i - 2, i % 4, i);
        }
        for (int i = 2; i < 6; i++) {
            x.addSinger(100 * i, i);
        }
        for (int i = 4; i < 12; i++) {
            x.addCue(i % 6, 'w', i + 5, 1, 2);
        }
        return x;
    }

    private static ClaqueRow withoutHouse() {
        ClaqueRow x = new ClaqueRow();
        x.addHand('a', 5, 1, 5);
        x.addSinger(90, 8);
        x.addSinger(70, 0);
        x.addCue(0, 'c', 0, 1, 12);
        x.setLevel(9);
        return x;
    }

    private static void theSceneIsBusy() {
        ClaqueRow x = busy();
        Check.due("busy: suspicions", 2, x::suspicions);
        Check.due("busy: calls", 1, x::calls);
        Check.due("busy: joined 8 times", 0, () -> x.tiredness(0, 1));
        Check.due("busy: both join", 2, x::joining);
        Check.due("busy: hisses", true, () -> x.hisses() > 0);
        Check.due("busy: owed", 7, () -> x.owed(0));
        Check.due("busy: purse", 3, x::purse);
        Check.due("busy: hand 0 got", 13, () -> x.moneyOf(0));
        Check.due("busy: a loud tick more is a call", 2, () -> x.run(1) == 10 ? x.calls() : -1);
        Check.due("busy: tired then", 0, () -> x.tiredness(0, 1));
        Check.due("busy: and in one more", 1, () -> x.run(1) == 11 ? x.tiredness(0, 1) : -1);
        Check.due("full: a hand more", STATE, () -> full().addHand('a', 1, 0, 0));
        Check.due("full: a singer more", STATE, () -> full().addSinger(0, 0));
        Check.due("full: a cue more", STATE, () -> full().addCue(0, 'c', 99, 1, 1));
    }

    private static void refused(String what, Class<?> due, Supplier<ClaqueRow> scene, Consumer<ClaqueRow> call) {
        ClaqueRow x = scene.get();
        Check.due(what, due, () -> {
            call.accept(x);
            return "no exception";
        });
        Check.due(what + " leaves", Seen.of(scene.get()), () -> Seen.of(x));
    }

    private static void refused(String what, Class<?> due, Consumer<ClaqueRow> call) {
        refused(what, due, RefusedTest::busy, call);
    }

    private static void noSuchSeat(String what, SeatCall call) {
        int[][] outside = {{-1, 0}, {2, 0}, {0, -1}, {0, 3}, {1, -1}, {1, 3}, {-1, 3}, {2, -1}};
        for (int[] place : outside) {
            refused(what + " of row " + place[0] + ", seat " + place[1], INDEX,
                x -> call.with(x, place[0], place[1]));
        }
        refused(what + " without a house", INDEX, RefusedTest::withoutHouse, x -> call.with(x, 0, 0));
    }

    private static void houseAndSeats() {
        refused("P2 no row", ARGUMENT, x -> x.newHouse(0, 3));
        refused("P2 nine rows", ARGUMENT, x -> x.newHouse(9, 3));
        refused("P2 no seat", ARGUMENT, x -> x.newHouse(2, 0));
        refused("P2 eleven seats", ARGUMENT, x -> x.newHouse(2, 11));
        refused("P2 still no house", ARGUMENT, RefusedTest::withoutHouse, x -> x.newHouse(1, 11));
        noSuchSeat("P3", (x, row, seat) -> x.seatPayer(row, seat, 3));
        noSuchSeat("P4", ClaqueRow::seatRival);
        noSuchSeat("P5", (x, row, seat) -> x.seatHand(0, row, seat));
        noSuchSeat("P6", ClaqueRow::clearSeat);
        noSuchSeat("P7", ClaqueRow::seatAt);
        for (int place = 0; place < 6; place++) {
            int row = place / 3;
            int seat = place % 3;
            refused("P3 threshold 0 at place " + place, ARGUMENT, x -> x.seatPayer(row, seat, 0));
            refused("P3 threshold 10 at place " + place, ARGUMENT, x -> x.seatPayer(row, seat, 10));
            refused("P5 hand 3 at place " + place, INDEX, x -> x.seatHand(3, row, seat));
            refused("P5 hand -1 at place " + place, INDEX, x -> x.seatHand(-1, row, seat));
        }
        refused("P5 this hand is there", UNSUPPORTED, x -> x.seatHand(0, 0, 0));
        refused("P5 this hand is there", UNSUPPORTED, x -> x.seatHand(1, 1, 1));
    }

    private static void hands() {
        refused("P8 kind", ARGUMENT, x -> x.addHand('h', 1, 0, 0));
        for (int outside : new int[] {0, 10}) {
            refused("P8 strength " + outside, ARGUMENT, x -> x.addHand('c', outside, 0, 0));
        }
        for (int outside : new int[] {-1, 4}) {
            refused("P8 rank " + outside, ARGUMENT, x -> x.addHand('c', 1, outside, 0));
        }
        for (int outside : new int[] {-1, 100}) {
            refused("P8 price " + outside, ARGUMENT, x -> x.addHand('c', 1, 0, outside));
        }
        refused("P8 a thirteenth", STATE, RefusedTest::full, x -> x.addHand('c', 9, 3, 0));
        refused("P9 hand 3", INDEX, x -> x.isSeated(3));
        refused("P9 hand -1", INDEX, x -> x.isSeated(-1));
    }

    private static void singersAndCues() {
        for (int outside : new int[] {-1, 1000}) {
            refused("P10 night " + outside, ARGUMENT, x -> x.addSinger(outside, 0));
        }
        for (int outside : new int[] {-1, 100}) {
            refused("P10 per call " + outside, ARGUMENT, x -> x.addSinger(0, outside));
        }
        refused("P10 a seventh", STATE, RefusedTest::full, x -> x.addSinger(9, 9));
        refused("P11 singer 2", INDEX, x -> x.addCue(2, 'c', 9, 3, 9));
        refused("P11 singer -1", INDEX, x -> x.addCue(-1, 'c', 9, 3, 9));
        refused("P11 kind a", ARGUMENT, x -> x.addCue(0, 'a', 9, 3, 9));
        for (int outside : new int[] {-1, 300}) {
            refused("P11 tick " + outside, ARGUMENT, x -> x.addCue(0, 'c', outside, 3, 9));
        }
        for (int outside : new int[] {0, 4}) {
            refused("P11 force " + outside, ARGUMENT, x -> x.addCue(0, 'c', 9, outside, 9));
        }
        for (int outside : new int[] {0, 31}) {
            refused("P11 ticks " + outside, ARGUMENT, x -> x.addCue(0, 'c', 9, 3, outside));
        }
        refused("P11 tick 8 has gone by", UNSUPPORTED, x -> x.addCue(0, 'c', 8, 3, 9));
        refused("P11 a thirteenth", STATE, RefusedTest::full, x -> x.addCue(0, 'c', 9, 3, 9));
    }

    private static void evenings() {
        refused("P12 level 0", ARGUMENT, x -> x.setLevel(0));
        refused("P12 level 1000", ARGUMENT, x -> x.setLevel(1000));
        refused("P13 no ticks", ARGUMENT, x -> x.run(0));
        refused("P13 101 ticks", ARGUMENT, x -> x.run(101));
        refused("P13 no house", STATE, RefusedTest::withoutHouse, x -> x.run(1));
        noSuchSeat("P14", ClaqueRow::noiseAt);
        noSuchSeat("P18", ClaqueRow::tiredness);
        refused("P18 a hand", UNSUPPORTED, x -> x.tiredness(0, 0));
        refused("P18 nobody", UNSUPPORTED, x -> x.tiredness(0, 2));
        refused("P18 a rival", UNSUPPORTED, x -> x.tiredness(1, 0));
        refused("P19 singer 2", INDEX, x -> x.callsOf(2));
        refused("P19 singer -1", INDEX, x -> x.callsOf(-1));
        refused("P23 no house", STATE, RefusedTest::withoutHouse, ClaqueRow::endEvening);
    }

    private static ClaqueRow withEmptyPurse() {
        ClaqueRow x = busy();
        x.share();
        return x;
    }

    private static void money() {
        refused("P24 singer 2", INDEX, x -> x.pay(2, 1));
        refused("P24 singer -1", INDEX, x -> x.pay(-1, 1));
        refused("P24 money 0", ARGUMENT, x -> x.pay(0, 0));
        refused("P24 money -1", ARGUMENT, x -> x.pay(0, -1));
        refused("P24 money 100000", ARGUMENT, x -> x.pay(0, 100000));
        refused("P24 nothing is owed", UNSUPPORTED, x -> x.pay(1, 1));
        refused("P25 singer 2", INDEX, x -> x.owed(2));
        refused("P25 singer -1", INDEX, x -> x.owed(-1));
        refused("P27 the purse is empty", UNSUPPORTED, RefusedTest::withEmptyPurse, ClaqueRow::share);
        refused("P27 of a new object", UNSUPPORTED, RefusedTest::withoutHouse, ClaqueRow::share);
        refused("P28 hand 3", INDEX, x -> x.moneyOf(3));
        refused("P28 hand -1", INDEX, x -> x.moneyOf(-1));
    }

    private static void plans() {
        refused("P30 calls 0", ARGUMENT, x -> x.planCost(0));
        refused("P30 calls 21", ARGUMENT, x -> x.planCost(21));
        refused("P30 19 is not 24", NONE, x -> x.planCost(4));
        refused("P31 calls 0", ARGUMENT, x -> x.isPlanned(0, 0));
        refused("P31 calls 21", ARGUMENT, x -> x.isPlanned(21, 0));
        refused("P31 hand 3", INDEX, x -> x.isPlanned(1, 3));
        refused("P31 hand -1", INDEX, x -> x.isPlanned(1, -1));
        refused("P31 19 is not 24", NONE, x -> x.isPlanned(4, 0));
    }

    private static ClaqueRow withoutPayers() {
        ClaqueRow x = busy();
        x.clearSeat(0, 1);
        x.seatRival(1, 2);
        return x;
    }

    private static void figures() {
        refused("P33 no payers", ARITHMETIC, RefusedTest::withoutPayers, ClaqueRow::joiningShare);
        refused("P33 no house", ARITHMETIC, RefusedTest::withoutHouse, ClaqueRow::joiningShare);
        refused("P34 no house", ARITHMETIC, RefusedTest::withoutHouse, ClaqueRow::meanNoise);
    }
}
