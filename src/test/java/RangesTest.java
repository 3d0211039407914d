import java.util.List;
import java.util.Map;
import java.util.NoSuchElementException;
import java.util.function.IntFunction;
import java.util.function.Supplier;

/**
 * Each range of the document: every number in it is taken, with its own answer, and those just outside of it, and
 * far outside, are refused. Each call is made on a claque of its own.
 */
public final class RangesTest {
    private static final Class<?> INDEX = IndexOutOfBoundsException.class;
    private static final Class<?> ARGUMENT = IllegalArgumentException.class;
    private static final Class<?> UNSUPPORTED = UnsupportedOperationException.class;
    private static final Class<?> NONE = NoSuchElementException.class;
    // The last three would pass for small numbers if they were cut to a byte, cut to a short, or taken 10 times.
    private static final int[] FAR = {Integer.MIN_VALUE, Integer.MAX_VALUE, -1, 256 + 1, 65536 + 1, 429496730};

    private interface NumberCall {
        Object with(ClaqueRow x, int number);
    }

    private interface SeatCall {
        Object with(ClaqueRow x, int row, int seat);
    }

    private interface KindCall {
        Object with(ClaqueRow x, char kind);
    }

    public static void main(String[] args) {
        sizesOfTheHouse();
        rowsAndSeats();
        rowsAndSeatsFarOff();
        noSeatsWithoutAHouse();
        thresholds();
        termsOfHands();
        numbersOfHands();
        termsOfSingers();
        numbersOfSingers();
        termsOfCues();
        levels();
        ticksOfARun();
        money();
        callsOfAPlan();
        kinds();
        Check.end("RangesTest");
    }

    private static void range(String what, int least, int most, Supplier<ClaqueRow> scene, NumberCall call,
            IntFunction<Object> due) {
        for (int i = least - 1; i <= most + 1; i++) {
            int number = i;
            boolean inside = least <= number && number <= most;
            Check.due(what + " " + number, inside ? due.apply(number) : ARGUMENT,
                () -> call.with(scene.get(), number));
        }
        refusedFarOff(what, ARGUMENT, least, most, scene, call);
    }

    private static void refusedFarOff(String what, Class<?> refusal, int least, int most, Supplier<ClaqueRow> scene,
            NumberCall call) {
        for (int number : FAR) {
            if (number < least || number > most) {
                Check.due(what + " " + number, refusal, () -> call.with(scene.get(), number));
            }
        }
    }

    private static void sizesOfTheHouse() {
        range("P2 rows", 1, 8, ClaqueRow::new, (x, rows) -> x.newHouse(rows, 3), rows -> 3 * rows);
        range("P2 seats", 1, 10, ClaqueRow::new, (x, seats) -> x.newHouse(8, seats), seats -> 8 * seats);
    }

    private static Map<String, SeatCall> seatCalls() {
        return Map.of(
            "P3 seatPayer", (x, row, seat) -> x.seatPayer(row, seat, 5),
            "P4 seatRival", ClaqueRow::seatRival,
            "P5 seatHand", (x, row, seat) -> x.seatHand(0, row, seat),
            "P6 clearSeat", ClaqueRow::clearSeat,
            "P7 seatAt", ClaqueRow::seatAt,
            "P14 noiseAt", ClaqueRow::noiseAt,
            "P18 tiredness", ClaqueRow::tiredness);
    }

    /** A house of this size, and a hand who has no seat. */
    private static ClaqueRow house(int rows, int seats) {
        ClaqueRow x = Scene.claque(1);
        x.newHouse(rows, seats);
        return x;
    }

    private static Object dueOfEmptySeat(String what) {
        return what.startsWith("P14") ? (Object) 0 : what.startsWith("P18") ? UNSUPPORTED : (Object) '.';
    }

    private static void rowsAndSeats() {
        for (int house = 0; house < 80; house++) {
            int rows = house / 10 + 1;
            int seats = house % 10 + 1;
            seatCalls().forEach((what, call) -> everySeat(what, call, rows, seats));
        }
    }

    private static void everySeat(String what, SeatCall call, int rows, int seats) {
        ClaqueRow x = house(rows, seats);
        for (int place = 0; place < 120; place++) {
            int row = place / 12 - 1;
            int seat = place % 12 - 1;
            boolean inside = row >= 0 && row < rows && seat >= 0 && seat < seats;
            Check.due(what + " of row " + row + ", seat " + seat + " in " + rows + " by " + seats,
                inside ? dueOfEmptySeat(what) : INDEX, () -> call.with(x, row, seat));
        }
    }

    private static void rowsAndSeatsFarOff() {
        seatCalls().forEach((what, call) -> {
            refusedFarOff(what + " row", INDEX, 0, 7, () -> house(8, 10), (x, row) -> call.with(x, row, 0));
            refusedFarOff(what + " seat", INDEX, 0, 9, () -> house(8, 10), (x, seat) -> call.with(x, 0, seat));
            refusedFarOff(what + " row and seat", INDEX, 0, 7, () -> house(8, 10), (x, far) -> call.with(x, far, far));
        });
    }

    private static void noSeatsWithoutAHouse() {
        seatCalls().forEach((what, call) ->
            Check.due(what + " without a house", INDEX, () -> call.with(Scene.claque(1), 0, 0)));
    }

    private static void thresholds() {
        range("P3 threshold", 1, 9, () -> house(2, 3), (x, threshold) -> x.seatPayer(1, 2, threshold), any -> '.');
    }

    private static void termsOfHands() {
        range("P8 strength", 1, 9, ClaqueRow::new, (x, strength) -> x.addHand('c', strength, 0, 0), any -> 0);
        range("P8 rank", 0, 3, ClaqueRow::new, (x, rank) -> x.addHand('c', 1, rank, 0), any -> 0);
        range("P8 price", 0, 99, ClaqueRow::new, (x, price) -> x.addHand('c', 1, 0, price), any -> 0);
    }

    /** Numbers from 0 up to that of the last one of so many; those outside are no such hand, or no such singer. */
    private static void numbered(String what, int many, Supplier<ClaqueRow> scene, NumberCall call,
            IntFunction<Object> due) {
        for (int i = -1; i <= many; i++) {
            int number = i;
            boolean inside = number >= 0 && number < many;
            Check.due(what + " " + number + " of " + many, inside ? due.apply(number) : INDEX,
                () -> call.with(scene.get(), number));
        }
        refusedFarOff(what + " of " + many, INDEX, 0, many - 1, scene, call);
    }

    private static ClaqueRow hands(int many) {
        ClaqueRow x = new ClaqueRow();
        x.newHouse(1, 1);
        for (int i = 0; i < many; i++) {
            x.addHand('c', 6, 0, 9);
        }
        return x;
    }

    private static void numbersOfHands() {
        for (int many : List.of(0, 1, 2, 11, 12)) {
            Supplier<ClaqueRow> scene = () -> hands(many);
            numbered("P5 hand", many, scene, (x, hand) -> x.seatHand(hand, 0, 0), any -> '.');
            numbered("P9 hand", many, scene, ClaqueRow::isSeated, any -> false);
            numbered("P28 hand", many, scene, ClaqueRow::moneyOf, any -> 0);
            numbered("P31 hand", many, scene, (x, hand) -> x.isPlanned(1, hand), hand -> hand == 0);
        }
    }

    private static void termsOfSingers() {
        range("P10 night", 0, 999, ClaqueRow::new, (x, night) -> x.addSinger(night, 0), any -> 0);
        range("P10 per call", 0, 99, ClaqueRow::new, (x, perCall) -> x.addSinger(0, perCall), any -> 0);
    }

    /** Singers who owe 1, 2, 3 and so on. */
    private static ClaqueRow singers(int many) {
        ClaqueRow x = new ClaqueRow();
        x.newHouse(1, 1);
        for (int i = 0; i < many; i++) {
            x.addSinger(i + 1, 0);
            x.addCue(i, 'c', 0, 1, 1);
        }
        x.run(1);
        x.endEvening();
        return x;
    }

    private static void numbersOfSingers() {
        for (int many : List.of(0, 1, 2, 5, 6)) {
            Supplier<ClaqueRow> scene = () -> singers(many);
            numbered("P11 singer", many, scene, (x, singer) -> x.addCue(singer, 'c', 0, 1, 1), any -> 0);
            numbered("P19 singer", many, scene, ClaqueRow::callsOf, any -> 0);
            numbered("P24 singer", many, scene, (x, singer) -> x.pay(singer, 1), singer -> singer);
            numbered("P25 singer", many, scene, ClaqueRow::owed, singer -> singer + 1);
        }
    }

    private static void termsOfCues() {
        Supplier<ClaqueRow> scene = Scene::claque;
        range("P11 tick", 0, 299, scene, (x, tick) -> x.addCue(0, 'c', tick, 1, 1), any -> 0);
        range("P11 force", 1, 3, scene, (x, force) -> x.addCue(0, 'c', 0, force, 1), any -> 0);
        range("P11 ticks", 1, 30, scene, (x, ticks) -> x.addCue(0, 'c', 0, 1, ticks), any -> 0);
    }

    private static void levels() {
        range("P12 level", 1, 999, ClaqueRow::new, ClaqueRow::setLevel, any -> 40);
    }

    private static void ticksOfARun() {
        range("P13 ticks", 1, 100, () -> house(1, 1), ClaqueRow::run, ticks -> ticks);
    }

    private static void money() {
        range("P24 money", 1, 99999, () -> singers(1), (x, money) -> x.pay(0, money), any -> 0);
    }

    /** Twelve hands of strength 9 and price 1: they are enough for 18 calls, not for 19. */
    private static ClaqueRow strongHands() {
        ClaqueRow x = new ClaqueRow();
        for (int i = 0; i < 12; i++) {
            x.addHand('c', 9, 0, 1);
        }
        return x;
    }

    private static void callsOfAPlan() {
        range("P30 calls", 1, 20, RangesTest::strongHands, ClaqueRow::planCost,
            calls -> calls <= 18 ? (Object) ((6 * calls + 8) / 9) : NONE);
        range("P31 calls", 1, 20, RangesTest::strongHands, (x, calls) -> x.isPlanned(calls, 11),
            calls -> calls <= 18 ? (Object) (6 * calls > 99) : NONE);
    }

    private static void kinds() {
        everyKind("P8", "cwlea", ClaqueRow::new, (x, kind) -> x.addHand(kind, 1, 0, 0));
        everyKind("P11", "cwle", Scene::claque, (x, kind) -> x.addCue(0, kind, 0, 1, 1));
    }

    private static void everyKind(String what, String kinds, Supplier<ClaqueRow> scene, KindCall call) {
        for (int i = 0; i <= Character.MAX_VALUE; i++) {
            char kind = (char) i;
            Check.due(what + " kind " + i, kinds.indexOf(kind) >= 0 ? (Object) 0 : ARGUMENT,
                () -> call.with(scene.get(), kind));
        }
    }
}
