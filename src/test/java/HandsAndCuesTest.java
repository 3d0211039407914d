/** Promises 8 to 12: hands, singers, cues and the level. */
public final class HandsAndCuesTest {
    private static final Class<?> INDEX = IndexOutOfBoundsException.class;
    private static final Class<?> ARGUMENT = IllegalArgumentException.class;
    private static final Class<?> UNSUPPORTED = UnsupportedOperationException.class;
    private static final Class<?> STATE = IllegalStateException.class;
    private static final int MIN = Integer.MIN_VALUE;
    private static final int MAX = Integer.MAX_VALUE;

    public static void main(String[] args) {
        addHand();
        isSeated();
        addSinger();
        addCue();
        addCueByItsTick();
        addCueFull();
        setLevel();
        Check.end("HandsAndCuesTest");
    }

    private static void addHand() {
        ClaqueRow x = new ClaqueRow();
        for (char kind : new char[] {'b', 'h', 'p', 'C', 'A', '.', 0, 255, Character.MAX_VALUE}) {
            Check.due("P8 kind " + (int) kind, ARGUMENT, () -> x.addHand(kind, 1, 0, 0));
        }
        for (int strength : new int[] {0, 10, -1, MIN, MAX}) {
            Check.due("P8 strength " + strength, ARGUMENT, () -> x.addHand('c', strength, 0, 0));
        }
        for (int rank : new int[] {-1, 4, MIN, MAX}) {
            Check.due("P8 rank " + rank, ARGUMENT, () -> x.addHand('c', 1, rank, 0));
        }
        for (int price : new int[] {-1, 100, MIN, MAX}) {
            Check.due("P8 price " + price, ARGUMENT, () -> x.addHand('c', 1, 0, price));
        }
        char[] kinds = {'c', 'w', 'l', 'e', 'a'};
        for (int i = 0; i < 12; i++) {
            int number = i;
            Check.due("P8 number", number,
                () -> x.addHand(kinds[number % 5], number % 2 == 0 ? 1 : 9, number % 4, number % 2 == 0 ? 99 : 0));
        }
        Check.due("P8 a thirteenth", STATE, () -> x.addHand('c', 1, 0, 0));
        Check.due("P8 the argument comes first", ARGUMENT, () -> x.addHand('x', 1, 0, 0));
        Check.due("P8 the argument comes first", ARGUMENT, () -> x.addHand('c', 1, 0, 100));
        Check.due("P8 the twelfth", 0, () -> x.moneyOf(11));
        Check.due("P8 no thirteenth", INDEX, () -> x.moneyOf(12));
    }

    private static void isSeated() {
        ClaqueRow x = new ClaqueRow();
        Check.due("P9 no hand", INDEX, () -> x.isSeated(0));
        x.addHand('c', 1, 0, 0);
        x.addHand('c', 1, 0, 0);
        Check.due("P9 without a house", false, () -> x.isSeated(1));
        x.newHouse(1, 2);
        x.seatHand(1, 0, 1);
        Check.due("P9 the other", false, () -> x.isSeated(0));
        Check.due("P9 seated", true, () -> x.isSeated(1));
        Check.due("P9 no hand", INDEX, () -> x.isSeated(2));
        Check.due("P9 no hand", INDEX, () -> x.isSeated(-1));
        Check.due("P9 no hand", INDEX, () -> x.isSeated(MIN));
        Check.due("P9 no hand", INDEX, () -> x.isSeated(MAX));
        x.run(1);
        x.endEvening();
        Check.due("P9 the seat stays behind the evening", true, () -> x.isSeated(1));
    }

    private static void addSinger() {
        ClaqueRow x = new ClaqueRow();
        for (int night : new int[] {-1, 1000, MIN, MAX}) {
            Check.due("P10 night " + night, ARGUMENT, () -> x.addSinger(night, 0));
        }
        for (int perCall : new int[] {-1, 100, MIN, MAX}) {
            Check.due("P10 per call " + perCall, ARGUMENT, () -> x.addSinger(0, perCall));
        }
        Check.due("P10 nothing was added", INDEX, () -> x.owed(0));
        for (int i = 0; i < 6; i++) {
            int number = i;
            Check.due("P10 number", number, () -> x.addSinger(number % 2 == 0 ? 0 : 999, number % 2 == 0 ? 99 : 0));
        }
        Check.due("P10 a seventh", STATE, () -> x.addSinger(1, 1));
        Check.due("P10 the argument comes first", ARGUMENT, () -> x.addSinger(1000, 1));
        Check.due("P10 the sixth", 0, () -> x.owed(5));
        Check.due("P10 no seventh", INDEX, () -> x.owed(6));
    }

    private static void addCue() {
        ClaqueRow x = new ClaqueRow();
        Check.due("P11 no singer", INDEX, () -> x.addCue(0, 'c', 0, 1, 1));
        x.addSinger(1, 1);
        Check.due("P11 no singer", INDEX, () -> x.addCue(1, 'c', 0, 1, 1));
        Check.due("P11 no singer", INDEX, () -> x.addCue(-1, 'c', 0, 1, 1));
        Check.due("P11 the singer comes first", INDEX, () -> x.addCue(1, 'x', -1, 0, 0));
        for (char kind : new char[] {'a', 'h', 'C', '.', 0, Character.MAX_VALUE}) {
            Check.due("P11 kind " + (int) kind, ARGUMENT, () -> x.addCue(0, kind, 0, 1, 1));
        }
        for (int tick : new int[] {-1, 300, MIN, MAX}) {
            Check.due("P11 tick " + tick, ARGUMENT, () -> x.addCue(0, 'c', tick, 1, 1));
        }
        for (int force : new int[] {0, 4, MIN, MAX}) {
            Check.due("P11 force " + force, ARGUMENT, () -> x.addCue(0, 'c', 0, force, 1));
        }
        for (int ticks : new int[] {0, 31, MIN, MAX}) {
            Check.due("P11 ticks " + ticks, ARGUMENT, () -> x.addCue(0, 'c', 0, 1, ticks));
        }
        Check.due("P11 without a house", 0, () -> x.addCue(0, 'c', 0, 1, 1));
        Check.due("P11 weeps", 1, () -> x.addCue(0, 'w', 299, 3, 30));
        Check.due("P11 laughs", 2, () -> x.addCue(0, 'l', 0, 2, 30));
        Check.due("P11 calls again", 3, () -> x.addCue(0, 'e', 299, 2, 1));
    }

    private static void addCueByItsTick() {
        ClaqueRow x = new ClaqueRow();
        x.newHouse(1, 1);
        x.addSinger(1, 1);
        x.run(100);
        Check.due("P11 tick 99 has gone by", UNSUPPORTED, () -> x.addCue(0, 'c', 99, 1, 1));
        Check.due("P11 tick 0 has gone by", UNSUPPORTED, () -> x.addCue(0, 'c', 0, 1, 1));
        Check.due("P11 the argument comes first", ARGUMENT, () -> x.addCue(0, 'c', 0, 4, 1));
        Check.due("P11 tick 100 comes", 0, () -> x.addCue(0, 'c', 100, 1, 1));
        x.run(100);
        x.run(100);
        Check.due("P11 tick 299 has gone by", UNSUPPORTED, () -> x.addCue(0, 'c', 299, 1, 1));
        x.endEvening();
        Check.due("P11 tick 0 comes again", 0, () -> x.addCue(0, 'c', 0, 1, 1));
    }

    private static void addCueFull() {
        ClaqueRow x = new ClaqueRow();
        x.newHouse(1, 1);
        x.addSinger(1, 1);
        for (int i = 0; i < 12; i++) {
            int number = i;
            Check.due("P11 number", number, () -> x.addCue(0, 'c', number, 1, 1));
        }
        Check.due("P11 a thirteenth", STATE, () -> x.addCue(0, 'c', 20, 1, 1));
        x.run(15);
        Check.due("P11 those that are over count too", STATE, () -> x.addCue(0, 'c', 20, 1, 1));
        Check.due("P11 the tick comes first", UNSUPPORTED, () -> x.addCue(0, 'c', 14, 1, 1));
        Check.due("P11 the argument comes first", ARGUMENT, () -> x.addCue(0, 'a', 20, 1, 1));
        Check.due("P11 the singer comes first", INDEX, () -> x.addCue(6, 'c', 20, 1, 1));
        x.endEvening();
        Check.due("P11 from 0 again", 0, () -> x.addCue(0, 'c', 20, 1, 1));
    }

    private static void setLevel() {
        ClaqueRow x = new ClaqueRow();
        for (int level : new int[] {0, 1000, -1, MIN, MAX}) {
            Check.due("P12 level " + level, ARGUMENT, () -> x.setLevel(level));
        }
        Check.due("P12 40 at first", 40, () -> x.setLevel(1));
        Check.due("P12 the one before", 1, () -> x.setLevel(999));
        Check.due("P12 the one before", 999, () -> x.setLevel(10));
        x.newHouse(1, 1);
        x.run(1);
        x.endEvening();
        Check.due("P12 it stays behind the evening", 10, () -> x.setLevel(10));
    }
}
