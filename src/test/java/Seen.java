/** What a claque tells, now and in the evenings to come. The claque is used up by that. */
final class Seen {
    private static final int TICKS_TO_COME = 16;

    private final ClaqueRow x;
    private final StringBuilder seen = new StringBuilder();

    private Seen(ClaqueRow x) {
        this.x = x;
    }

    static String of(ClaqueRow x) {
        Seen seen = new Seen(x);
        seen.scalars();
        seen.seats();
        seen.hands();
        seen.singers();
        seen.ticksToCome();
        seen.cuesToCome();
        seen.nextEvening();
        return seen.seen.toString();
    }

    private boolean tell(String what, Check.Call call) {
        Object answer;
        boolean answered = true;
        try {
            answer = call.answer();
        } catch (RuntimeException e) {
            answer = Check.thrown(e);
            answered = false;
        }
        seen.append(what).append('=').append(answer).append(' ');
        return answered;
    }

    private void scalars() {
        tell("noise", x::noise);
        tell("joining", x::joining);
        tell("hisses", x::hisses);
        tell("calls", x::calls);
        tell("suspicions", x::suspicions);
        tell("found out", x::areFoundOut);
        tell("purse", x::purse);
        tell("chiefs", x::chiefs);
        tell("checksum", x::checksum);
        tell("share of joining", x::joiningShare);
        tell("mean noise", x::meanNoise);
        tell("sound", x::isSound);
    }

    private void seats() {
        for (int row = 0; isSeat(row, 0); row++) {
            for (int seat = 0; isSeat(row, seat); seat++) {
                int r = row;
                int s = seat;
                tell("who", () -> x.seatAt(r, s));
                tell("noise", () -> x.noiseAt(r, s));
                tell("tiredness", () -> x.tiredness(r, s));
            }
        }
    }

    private boolean isSeat(int row, int seat) {
        try {
            return x.seatAt(row, seat) != 0;
        } catch (IndexOutOfBoundsException e) {
            return false;
        }
    }

    private void hands() {
        int hand = 0;
        while (hand >= 0) {
            int h = hand;
            tell("seated", () -> x.isSeated(h));
            tell("planned", () -> x.isPlanned(1, h));
            hand = tell("money", () -> x.moneyOf(h)) ? hand + 1 : -1;
        }
        tell("plan", () -> x.planCost(2));
    }

    private void singers() {
        int singer = 0;
        while (singer >= 0) {
            int s = singer;
            tell("calls", () -> x.callsOf(s));
            singer = tell("owed", () -> x.owed(s)) ? singer + 1 : -1;
        }
    }

    private void ticksToCome() {
        for (int i = 0; i < TICKS_TO_COME; i++) {
            tell("tick", () -> x.run(1));
            tell("checksum", x::checksum);
            tell("joining", x::joining);
            tell("suspicions", x::suspicions);
        }
    }

    private void cuesToCome() {
        boolean room = true;
        for (int i = 0; i < 13 && room; i++) {
            room = tell("cue", () -> x.addCue(0, 'c', 299, 1, 1));
        }
    }

    private void nextEvening() {
        tell("bill", x::endEvening);
        tell("owed", () -> x.owed(0));
        tell("owed", () -> x.owed(1));
        tell("level", () -> x.setLevel(1));
        tell("paid", () -> x.pay(0, 50));
        tell("share", x::share);
        tell("hand", () -> x.addHand('a', 9, 3, 1));
        tell("singer", () -> x.addSinger(9, 9));
        scalars();
        hands();
        singers();
    }
}
