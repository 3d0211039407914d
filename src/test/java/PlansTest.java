import java.util.NoSuchElementException;

/** Promises 30 and 31: the cheapest plan. */
public final class PlansTest {
    private static final Class<?> INDEX = IndexOutOfBoundsException.class;
    private static final Class<?> ARGUMENT = IllegalArgumentException.class;
    private static final Class<?> NONE = NoSuchElementException.class;

    public static void main(String[] args) {
        example();
        wrongInputs();
        strengthIsReached();
        cheapest();
        fewestHands();
        lowestHands();
        allHands();
        sixTimesTheCalls();
        costAheadOfNumberAheadOfOrder();
        Check.end("PlansTest");
    }

    /** Hands by strength and price. */
    private static ClaqueRow hands(int[]... hands) {
        ClaqueRow x = new ClaqueRow();
        for (int[] hand : hands) {
            x.addHand('c', hand[0], 0, hand[1]);
        }
        return x;
    }

    private static void planned(ClaqueRow x, int calls, int cost, String hands) {
        Check.due("P30 cost for " + calls, cost, () -> x.planCost(calls));
        for (int i = 0; i < hands.length(); i++) {
            int hand = i;
            Check.due("P31 hand " + hand + " for " + calls, hands.charAt(hand) == '1',
                () -> x.isPlanned(calls, hand));
        }
    }

    private static void example() {
        ClaqueRow x = new ClaqueRow();
        Check.due("example", 0, () -> x.addHand('a', 6, 0, 9));
        Check.due("example", 1, () -> x.addHand('a', 7, 0, 9));
        Check.due("example", 2, () -> x.addHand('c', 9, 1, 20));
        planned(x, 1, 9, "100");
        planned(x, 2, 18, "110");
        planned(x, 3, 38, "111");
        Check.due("22 is not 24", NONE, () -> x.planCost(4));
    }

    private static void wrongInputs() {
        ClaqueRow x = new ClaqueRow();
        Check.due("P30 no hands", NONE, () -> x.planCost(1));
        Check.due("P31 no hands", INDEX, () -> x.isPlanned(1, 0));
        x.addHand('c', 9, 0, 1);
        for (int calls : new int[] {0, 21, -1, Integer.MAX_VALUE, Integer.MIN_VALUE}) {
            Check.due("P30 calls " + calls, ARGUMENT, () -> x.planCost(calls));
            Check.due("P31 calls " + calls, ARGUMENT, () -> x.isPlanned(calls, 0));
            Check.due("P31 calls come first", ARGUMENT, () -> x.isPlanned(calls, 1));
        }
        Check.due("P30 none", NONE, () -> x.planCost(2));
        Check.due("P30 none", NONE, () -> x.planCost(20));
        Check.due("P31 none", NONE, () -> x.isPlanned(2, 0));
        Check.due("P31 the hand comes first", INDEX, () -> x.isPlanned(2, 1));
        Check.due("P31 no hand", INDEX, () -> x.isPlanned(1, 1));
        Check.due("P31 no hand", INDEX, () -> x.isPlanned(1, -1));
        Check.due("P31 no hand", INDEX, () -> x.isPlanned(1, 32));
        Check.due("P31 no hand", INDEX, () -> x.isPlanned(1, Integer.MIN_VALUE));
        planned(x, 1, 1, "1");
    }

    private static void strengthIsReached() {
        Check.due("P30 5 is not 6", NONE, () -> hands(new int[] {5, 0}).planCost(1));
        planned(hands(new int[] {6, 0}), 1, 0, "1");
        planned(hands(new int[] {5, 3}, new int[] {1, 4}), 1, 7, "11");
        planned(hands(new int[] {9, 3}, new int[] {3, 4}), 2, 7, "11");
        Check.due("P30 11 is not 12", NONE, () -> hands(new int[] {9, 3}, new int[] {2, 4}).planCost(2));
        int[][] strong = new int[12][];
        for (int i = 0; i < 12; i++) {
            strong[i] = new int[] {9, 99};
        }
        ClaqueRow x = hands(strong);
        planned(x, 18, 12 * 99, "111111111111");
        planned(x, 1, 99, "100000000000");
        planned(x, 16, 11 * 99, "111111111110");
        Check.due("P30 108 is not 114", NONE, () -> x.planCost(19));
        Check.due("P31 108 is not 120", NONE, () -> x.isPlanned(20, 11));
    }

    private static void cheapest() {
        planned(hands(new int[] {9, 20}, new int[] {3, 9}, new int[] {3, 9}), 1, 18, "011");
        planned(hands(new int[] {9, 18}, new int[] {3, 9}, new int[] {3, 8}), 1, 17, "011");
        planned(hands(new int[] {6, 5}, new int[] {9, 4}), 1, 4, "01");
        planned(hands(new int[] {9, 0}, new int[] {9, 99}, new int[] {9, 1}), 2, 1, "101");
        planned(hands(new int[] {1, 1}, new int[] {1, 1}, new int[] {1, 1}, new int[] {1, 1}, new int[] {1, 1},
            new int[] {1, 1}, new int[] {9, 7}), 1, 6, "1111110");
    }

    private static void fewestHands() {
        planned(hands(new int[] {3, 9}, new int[] {3, 9}, new int[] {9, 18}), 1, 18, "001");
        planned(hands(new int[] {1, 0}, new int[] {9, 0}, new int[] {1, 0}), 1, 0, "010");
        planned(hands(new int[] {3, 0}, new int[] {3, 0}, new int[] {3, 0}, new int[] {9, 0}), 2, 0, "1001");
        planned(hands(new int[] {2, 5}, new int[] {2, 5}, new int[] {2, 5}, new int[] {3, 7}, new int[] {3, 8}),
            1, 15, "00011");
    }

    private static void lowestHands() {
        planned(hands(new int[] {6, 5}, new int[] {6, 5}), 1, 5, "10");
        planned(hands(new int[] {7, 6}, new int[] {6, 5}, new int[] {9, 5}), 1, 5, "010");
        // {0, 3} and {1, 2} are alike in price and count: the first hand decides.
        planned(hands(new int[] {3, 1}, new int[] {6, 2}, new int[] {6, 3}, new int[] {9, 4}), 2, 5, "1001");
        planned(hands(new int[] {4, 1}, new int[] {6, 2}, new int[] {6, 4}, new int[] {8, 5}), 2, 6, "1001");
        // {0, 2, 3} and {0, 1, 4}: the first hand is the same, the second one decides.
        planned(hands(new int[] {6, 0}, new int[] {5, 2}, new int[] {6, 3}, new int[] {6, 3}, new int[] {7, 4}),
            3, 6, "11001");
        // {0, 1, 4} and {0, 1, 3}, of like prices: the third one decides.
        planned(hands(new int[] {6, 3}, new int[] {6, 3}, new int[] {5, 3}, new int[] {6, 3}, new int[] {6, 3}),
            3, 9, "11010");
    }

    private static void allHands() {
        ClaqueRow x = new ClaqueRow();
        x.newHouse(1, 1);
        x.addHand('w', 9, 0, 8);
        x.addHand('e', 9, 3, 7);
        x.seatHand(0, 0, 0);
        planned(x, 1, 7, "01");
        planned(x, 3, 15, "11");
        x.addHand('l', 6, 3, 6);
        planned(x, 1, 6, "001");
    }

    /** Hands who are together as strong as this, at a price of 2 each. */
    private static ClaqueRow together(int strength) {
        ClaqueRow x = new ClaqueRow();
        for (int one : Scene.strengthsOf(strength)) {
            x.addHand('c', one, 0, 2);
        }
        return x;
    }

    private static void sixTimesTheCalls() {
        for (int i = 1; i <= 18; i++) {
            int calls = i;
            int hands = (6 * calls + 8) / 9;
            Check.due("P30 6 times " + calls, 2 * hands, () -> together(6 * calls).planCost(calls));
            Check.due("P31 6 times " + calls, true, () -> together(6 * calls).isPlanned(calls, hands - 1));
            Check.due("P30 less than 6 times " + calls, NONE, () -> together(6 * calls - 1).planCost(calls));
            Check.due("P31 less than 6 times " + calls, NONE, () -> together(6 * calls - 1).isPlanned(calls, 0));
        }
    }

    /** The least sum of prices wins over fewer hands, and fewer hands over a lower first one. */
    private static void costAheadOfNumberAheadOfOrder() {
        planned(hands(new int[] {9, 3}, new int[] {3, 1}, new int[] {3, 1}), 1, 2, "011");
        planned(hands(new int[] {9, 2}, new int[] {3, 1}, new int[] {3, 1}), 1, 2, "100");
        planned(hands(new int[] {3, 1}, new int[] {3, 1}, new int[] {9, 2}), 1, 2, "001");
        planned(hands(new int[] {3, 1}, new int[] {3, 1}, new int[] {9, 3}), 1, 2, "110");
        planned(hands(new int[] {2, 1}, new int[] {9, 2}, new int[] {5, 1}, new int[] {9, 2}), 1, 2, "0100");
        planned(hands(new int[] {5, 0}, new int[] {6, 0}, new int[] {1, 0}), 1, 0, "010");
    }
}
