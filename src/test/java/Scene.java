/** How the tests set a scene: who sits where, and hands of wanted strengths. */
final class Scene {
    private Scene() {
    }

    /** A row of seats by signs: '1' to '9' payers of that threshold, 'r' rivals, 'h' hands in their order. */
    static void seat(ClaqueRow x, String... rows) {
        x.newHouse(rows.length, rows[0].length());
        int hand = 0;
        for (int row = 0; row < rows.length; row++) {
            for (int seat = 0; seat < rows[row].length(); seat++) {
                char sign = rows[row].charAt(seat);
                if (sign == 'r') {
                    x.seatRival(row, seat);
                } else if (sign == 'h') {
                    x.seatHand(hand++, row, seat);
                } else if (sign != '.') {
                    x.seatPayer(row, seat, sign - '0');
                }
            }
        }
    }

    /** Hands who do all of it, of these strengths, and a singer, 50 for the night and 7 for a call. */
    static ClaqueRow claque(int... strengths) {
        ClaqueRow x = new ClaqueRow();
        for (int strength : strengths) {
            x.addHand('a', strength, 0, 0);
        }
        x.addSinger(50, 7);
        return x;
    }

    /** So many strengths that are together this sum; those that would be 0 are left out. */
    static int[] strengthsOf(int sum) {
        int[] strengths = new int[(sum + 8) / 9];
        for (int i = 0; i < strengths.length; i++) {
            strengths[i] = Math.min(9, sum - 9 * i);
        }
        return strengths;
    }

    /** A claque in which a payer in the middle of nine seats has these hands around it, and a cue that is on. */
    static ClaqueRow payerAmong(int threshold, int... strengths) {
        ClaqueRow x = claque(strengths);
        char[] around = "........".toCharArray();
        for (int i = 0; i < strengths.length; i++) {
            around[i] = 'h';
        }
        String signs = new String(around);
        seat(x, signs.substring(0, 3), signs.charAt(3) + "" + threshold + signs.charAt(4), signs.substring(5));
        x.addCue(0, 'c', 0, 1, 30);
        return x;
    }
}
