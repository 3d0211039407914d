import java.util.ArrayList;
import java.util.List;
import java.util.NoSuchElementException;

/**
 * "If several exceptions apply, the one that is documented first is thrown": each set of grounds that can hold at
 * once, for each call that documents more than one exception.
 */
public final class OrderTest {
    private static final Class<?> INDEX = IndexOutOfBoundsException.class;
    private static final Class<?> ARGUMENT = IllegalArgumentException.class;
    private static final Class<?> UNSUPPORTED = UnsupportedOperationException.class;
    private static final Class<?> STATE = IllegalStateException.class;
    private static final Class<?> NONE = NoSuchElementException.class;

    public static void main(String[] args) {
        seatPayer();
        seatHand();
        addHand();
        addSinger();
        addCue();
        run();
        tiredness();
        pay();
        isPlanned();
        planCost();
        Check.end("OrderTest");
    }

    private static void seatPayer() {
        for (int threshold : new int[] {0, 10}) {
            ClaqueRow x = new ClaqueRow();
            Check.due("P3 no house, no threshold", INDEX, () -> x.seatPayer(0, 0, threshold));
            x.newHouse(2, 3);
            Check.due("P3 no row, no threshold", INDEX, () -> x.seatPayer(2, 0, threshold));
            Check.due("P3 no row, no threshold", INDEX, () -> x.seatPayer(-1, 0, threshold));
            Check.due("P3 no seat, no threshold", INDEX, () -> x.seatPayer(0, 3, threshold));
            Check.due("P3 no seat, no threshold", INDEX, () -> x.seatPayer(0, -1, threshold));
            Check.due("P3 no threshold", ARGUMENT, () -> x.seatPayer(0, 0, threshold));
        }
    }

    private static void seatHand() {
        ClaqueRow x = Scene.claque(1);
        x.newHouse(1, 1);
        Check.due("P5 no hand, no seat", INDEX, () -> x.seatHand(1, 1, 1));
        Check.due("P5 no hand", INDEX, () -> x.seatHand(1, 0, 0));
        x.seatHand(0, 0, 0);
        Check.due("P5 no hand, and another one is there", INDEX, () -> x.seatHand(1, 0, 0));
        Check.due("P5 no seat", INDEX, () -> x.seatHand(0, 0, 1));
        Check.due("P5 this hand is there", UNSUPPORTED, () -> x.seatHand(0, 0, 0));
    }

    private static void addHand() {
        ClaqueRow x = new ClaqueRow();
        for (int i = 0; i < 12; i++) {
            x.addHand('c', 1, 0, 0);
        }
        Check.due("P8 there are 12", STATE, () -> x.addHand('c', 1, 0, 0));
        Check.due("P8 no kind", ARGUMENT, () -> x.addHand('x', 1, 0, 0));
        Check.due("P8 no strength", ARGUMENT, () -> x.addHand('c', 0, 0, 0));
        Check.due("P8 no strength", ARGUMENT, () -> x.addHand('c', 10, 0, 0));
        Check.due("P8 no rank", ARGUMENT, () -> x.addHand('c', 1, -1, 0));
        Check.due("P8 no rank", ARGUMENT, () -> x.addHand('c', 1, 4, 0));
        Check.due("P8 no price", ARGUMENT, () -> x.addHand('c', 1, 0, -1));
        Check.due("P8 no price", ARGUMENT, () -> x.addHand('c', 1, 0, 100));
    }

    private static void addSinger() {
        ClaqueRow x = new ClaqueRow();
        for (int i = 0; i < 6; i++) {
            x.addSinger(0, 0);
        }
        Check.due("P10 there are 6", STATE, () -> x.addSinger(0, 0));
        Check.due("P10 no night", ARGUMENT, () -> x.addSinger(-1, 0));
        Check.due("P10 no night", ARGUMENT, () -> x.addSinger(1000, 0));
        Check.due("P10 no per call", ARGUMENT, () -> x.addSinger(0, -1));
        Check.due("P10 no per call", ARGUMENT, () -> x.addSinger(0, 100));
    }

    /** Singer 0 alone, 100 ticks gone by, and so many cues. */
    private static ClaqueRow withCues(int cues) {
        ClaqueRow x = Scene.claque();
        x.newHouse(1, 1);
        for (int i = 0; i < cues; i++) {
            x.addCue(0, 'c', 200, 1, 1);
        }
        x.run(100);
        return x;
    }

    /** Kind, force and ticks, of which one is wrong. */
    private static List<Object[]> wrongArguments() {
        List<Object[]> wrong = new ArrayList<>();
        wrong.add(new Object[] {'a', 1, 1});
        wrong.add(new Object[] {'c', 0, 1});
        wrong.add(new Object[] {'c', 4, 1});
        wrong.add(new Object[] {'c', 1, 0});
        wrong.add(new Object[] {'c', 1, 31});
        return wrong;
    }

    /** Four grounds, each of which holds or not: no singer, a wrong argument, a tick that has gone by, 12 cues. */
    private static void addCue() {
        for (int grounds = 0; grounds < 16; grounds++) {
            int singer = (grounds & 8) != 0 ? 1 : 0;
            boolean argument = (grounds & 4) != 0;
            int tick = (grounds & 2) != 0 ? 99 : 100;
            int cues = (grounds & 1) != 0 ? 12 : 11;
            Object due = grounds >= 8 ? INDEX : grounds >= 4 ? ARGUMENT : grounds >= 2 ? UNSUPPORTED
                : grounds == 1 ? STATE : (Object) 11;
            for (Object[] wrong : wrongArguments()) {
                Object[] w = argument ? wrong : new Object[] {'c', 1, 1};
                Check.due("P11 grounds " + Integer.toBinaryString(grounds), due,
                    () -> withCues(cues).addCue(singer, (char) w[0], tick, (int) w[1], (int) w[2]));
            }
        }
        for (int cues : new int[] {11, 12}) {
            Check.due("P11 no such tick, nor to come", ARGUMENT, () -> withCues(cues).addCue(0, 'c', -1, 1, 1));
            Check.due("P11 no such tick", ARGUMENT, () -> withCues(cues).addCue(0, 'c', 300, 1, 1));
            Check.due("P11 no singer, no such tick", INDEX, () -> withCues(cues).addCue(1, 'c', -1, 1, 1));
            Check.due("P11 no singer, no such tick", INDEX, () -> withCues(cues).addCue(-1, 'c', 300, 1, 1));
        }
    }

    private static void run() {
        ClaqueRow x = new ClaqueRow();
        Check.due("P13 no house", STATE, () -> x.run(1));
        Check.due("P13 no house", STATE, () -> x.run(100));
        Check.due("P13 no house, no ticks", ARGUMENT, () -> x.run(0));
        Check.due("P13 no house, 101 ticks", ARGUMENT, () -> x.run(101));
    }

    private static void tiredness() {
        ClaqueRow x = new ClaqueRow();
        Check.due("P18 no house, and so no payer", INDEX, () -> x.tiredness(0, 0));
        x.newHouse(1, 1);
        Check.due("P18 no row, and so no payer", INDEX, () -> x.tiredness(1, 0));
        Check.due("P18 no seat, and so no payer", INDEX, () -> x.tiredness(0, 1));
        Check.due("P18 no payer", UNSUPPORTED, () -> x.tiredness(0, 0));
    }

    private static void pay() {
        for (int money : new int[] {0, 100000}) {
            ClaqueRow x = new ClaqueRow();
            Check.due("P24 no singer, no such money", INDEX, () -> x.pay(0, money));
            x.addSinger(9, 9);
            Check.due("P24 no singer, no such money", INDEX, () -> x.pay(1, money));
            Check.due("P24 no singer, no such money", INDEX, () -> x.pay(-1, money));
            Check.due("P24 no such money, nothing is owed", ARGUMENT, () -> x.pay(0, money));
            Check.due("P24 nothing is owed", UNSUPPORTED, () -> x.pay(0, 1));
        }
    }

    private static void isPlanned() {
        for (int calls : new int[] {0, 21}) {
            ClaqueRow x = new ClaqueRow();
            Check.due("P31 no such number, no hand, no plan", ARGUMENT, () -> x.isPlanned(calls, 0));
            x.addHand('c', 9, 0, 0);
            Check.due("P31 no such number, no hand", ARGUMENT, () -> x.isPlanned(calls, 1));
            Check.due("P31 no such number, no hand", ARGUMENT, () -> x.isPlanned(calls, -1));
            Check.due("P31 no such number, no plan", ARGUMENT, () -> x.isPlanned(calls, 0));
            Check.due("P31 no hand, no plan", INDEX, () -> x.isPlanned(2, 1));
            Check.due("P31 no hand, no plan", INDEX, () -> x.isPlanned(2, -1));
            Check.due("P31 no hand", INDEX, () -> x.isPlanned(1, 1));
            Check.due("P31 no plan", NONE, () -> x.isPlanned(2, 0));
        }
    }

    private static void planCost() {
        ClaqueRow x = new ClaqueRow();
        Check.due("P30 no such number, no plan", ARGUMENT, () -> x.planCost(0));
        Check.due("P30 no such number, no plan", ARGUMENT, () -> x.planCost(21));
        Check.due("P30 no plan", NONE, () -> x.planCost(1));
        Check.due("P30 no plan", NONE, () -> x.planCost(20));
    }
}
