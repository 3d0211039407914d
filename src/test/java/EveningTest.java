/** Promises 13 to 23: how ticks go by, what is heard in them, and how an evening ends. */
public final class EveningTest {
    private static final Class<?> INDEX = IndexOutOfBoundsException.class;
    private static final Class<?> ARGUMENT = IllegalArgumentException.class;
    private static final Class<?> UNSUPPORTED = UnsupportedOperationException.class;
    private static final Class<?> STATE = IllegalStateException.class;

    public static void main(String[] args) {
        example();
        run();
        kindsAndForces();
        cueIsOnForItsTicks();
        joinsFromThreeTimesTheThreshold();
        noiseOfJoining();
        fades();
        neighbours();
        madeOfTheTickAhead();
        rivalsHiss();
        hissTakesFour();
        tiredness();
        calls();
        levelIsReached();
        callsOf();
        suspicions();
        suspicionsCountPayersAndHands();
        foundOut();
        moreThanThreeSuspicions();
        toldOfThoseSeatedNow();
        endEvening();
        endEveningForgets();
        Check.end("EveningTest");
    }

    private static void example() {
        ClaqueRow x = new ClaqueRow();
        Check.due("example", 2, () -> x.newHouse(1, 2));
        Check.due("example", 0, () -> x.addHand('c', 4, 0, 5));
        Check.due("example", 0, () -> x.addSinger(50, 10));
        Check.due("example", '.', () -> x.seatHand(0, 0, 0));
        Check.due("example", '.', () -> x.seatPayer(0, 1, 2));
        Check.due("example", 0, () -> x.addCue(0, 'c', 0, 2, 3));
        Check.due("example", 1, () -> x.run(1));
        Check.due("example", 8, () -> x.noiseAt(0, 0));
        Check.due("example", 2, () -> x.run(1));
        Check.due("example", 2, () -> x.noiseAt(0, 1));
    }

    private static void run() {
        ClaqueRow x = new ClaqueRow();
        Check.due("P13 no house", STATE, () -> x.run(1));
        Check.due("P13 the argument comes first", ARGUMENT, () -> x.run(0));
        x.newHouse(8, 10);
        for (int ticks : new int[] {0, -1, 101, Integer.MAX_VALUE, Integer.MIN_VALUE}) {
            Check.due("P13 ticks " + ticks, ARGUMENT, () -> x.run(ticks));
        }
        Check.due("P13 none has gone by", 1, () -> x.run(1));
        Check.due("P13 100 more", 101, () -> x.run(100));
        Check.due("P13 2 more", 103, () -> x.run(2));
        for (int i = 0; i < 10; i++) {
            x.run(100);
        }
        Check.due("P13 beyond the last cue", 1104, () -> x.run(1));
        x.endEvening();
        Check.due("P13 from 0 again", 3, () -> x.run(3));
        x.newHouse(1, 1);
        Check.due("P13 from 0 again", 1, () -> x.run(1));
    }

    private static void kindsAndForces() {
        char[] kinds = {'c', 'w', 'l', 'e'};
        for (char cue : kinds) {
            ClaqueRow x = new ClaqueRow();
            for (char hand : kinds) {
                x.addHand(hand, 2, 0, 0);
            }
            x.addHand('a', 1, 0, 0);
            x.addSinger(0, 0);
            Scene.seat(x, "h.h.h.h.h");
            x.addCue(0, cue, 0, 3, 1);
            x.run(1);
            for (int i = 0; i < 4; i++) {
                int place = 2 * i;
                int want = kinds[i] == cue ? 6 : 0;
                Check.due("P14 hand " + kinds[i] + " by cue " + cue, want, () -> x.noiseAt(0, place));
            }
            Check.due("P14 hand a by cue " + cue, 3, () -> x.noiseAt(0, 8));
        }
        ClaqueRow x = Scene.claque(2, 4, 5);
        x.addHand('w', 2, 0, 0);
        Scene.seat(x, "hhhh");
        x.addCue(0, 'c', 0, 1, 9);
        x.addCue(0, 'l', 1, 2, 1);
        x.addCue(0, 'w', 1, 1, 1);
        x.run(1);
        Check.due("P14 by force 1", 2, () -> x.noiseAt(0, 0));
        Check.due("P14 by force 1", 4, () -> x.noiseAt(0, 1));
        Check.due("P14 no cue of its kind", 0, () -> x.noiseAt(0, 3));
        x.run(1);
        Check.due("P14 by the greatest force", 4, () -> x.noiseAt(0, 0));
        Check.due("P14 by the greatest force", 8, () -> x.noiseAt(0, 1));
        Check.due("P14 9 at most", 9, () -> x.noiseAt(0, 2));
        Check.due("P14 by the force of its kind", 2, () -> x.noiseAt(0, 3));
        Check.due("P15 the sum", 23, x::noise);
        x.run(1);
        Check.due("P14 by force 1 again", 2, () -> x.noiseAt(0, 0));
        Check.due("P15 the sum", 11, x::noise);
        Check.due("P14 no row", INDEX, () -> x.noiseAt(1, 0));
        Check.due("P14 no row", INDEX, () -> x.noiseAt(-1, 0));
        Check.due("P14 no seat", INDEX, () -> x.noiseAt(0, 4));
        Check.due("P14 no seat", INDEX, () -> x.noiseAt(0, -1));
        Check.due("P14 no house", INDEX, () -> new ClaqueRow().noiseAt(0, 0));
    }

    private static void cueIsOnForItsTicks() {
        ClaqueRow x = Scene.claque(3);
        Scene.seat(x, "h");
        x.addCue(0, 'c', 2, 1, 3);
        int[] want = {0, 0, 3, 3, 3, 0, 0};
        for (int i = 0; i < want.length; i++) {
            int tick = i;
            x.run(1);
            Check.due("P14 in tick " + tick, want[tick], () -> x.noiseAt(0, 0));
        }
        x.addCue(0, 'c', 299, 2, 30);
        x.run(100);
        x.run(100);
        x.run(92);
        Check.due("P14 ahead of tick 299", 0, x::noise);
        x.run(1);
        Check.due("P14 in tick 299", 6, x::noise);
        x.run(29);
        Check.due("P14 in tick 328", 6, x::noise);
        x.run(1);
        Check.due("P14 in tick 329", 0, x::noise);
    }

    private static void joinsFromThreeTimesTheThreshold() {
        for (int threshold = 1; threshold <= 9; threshold++) {
            for (int strength = 1; strength <= 9; strength++) {
                ClaqueRow x = Scene.claque(strength, strength, strength);
                Scene.seat(x, "h" + threshold + "h", "h..");
                x.addCue(0, 'c', 0, 1, 30);
                x.run(2);
                boolean joins = 3 * strength >= 3 * threshold;
                String what = "threshold " + threshold + " by 3 times " + strength;
                Check.due("P16 " + what, joins ? 1 : 0, x::joining);
                int noise = !joins ? 0 : Math.max(1, 3 * strength / 4);
                Check.due("P14 " + what, noise, () -> x.noiseAt(0, 1));
            }
        }
        ClaqueRow x = Scene.claque(4, 4);
        Scene.seat(x, "h3h");
        x.addCue(0, 'c', 0, 1, 30);
        x.run(2);
        Check.due("P16 8 is not 9", 0, x::joining);
        ClaqueRow y = Scene.claque(5, 5);
        Scene.seat(y, "h3h");
        y.addCue(0, 'c', 0, 1, 30);
        y.run(2);
        Check.due("P16 10 is 9 and more", 1, y::joining);
        Check.due("P16 not in a new object", 0, () -> new ClaqueRow().joining());
    }

    private static void noiseOfJoining() {
        int[][] soundsOf = {{3, 1}, {4, 1}, {7, 1}, {8, 2}, {9, 2}};
        for (int[] s : soundsOf) {
            ClaqueRow x = Scene.claque(s[0]);
            Scene.seat(x, "h1");
            x.addCue(0, 'c', 0, 1, 30);
            x.run(2);
            Check.due("P14 by " + s[0], s[1], () -> x.noiseAt(0, 1));
        }
        int[] ofHands = {9, 9, 9, 9, 9, 9, 9, 9};
        ClaqueRow x = Scene.claque(ofHands);
        Scene.seat(x, "hhh", "h9h", "hhh");
        x.addCue(0, 'c', 0, 1, 30);
        x.run(2);
        Check.due("P14 by 72, 9 at most", 9, () -> x.noiseAt(1, 1));
        x.clearSeat(0, 0);
        x.clearSeat(0, 1);
        x.clearSeat(0, 2);
        x.seatHand(0, 0, 0);
        x.seatHand(1, 0, 1);
        x.addCue(0, 'c', 2, 1, 1);
        x.run(1);
        Check.due("P14 by 45", 9, () -> x.noiseAt(1, 1));
        ClaqueRow y = Scene.claque(9, 9, 9, 8);
        Scene.seat(y, "hhh", "h9.");
        y.addCue(0, 'c', 0, 1, 30);
        y.run(2);
        Check.due("P14 by 35", 8, () -> y.noiseAt(1, 1));
    }

    private static void fades() {
        ClaqueRow x = Scene.claque(9, 9);
        Scene.seat(x, "h1h");
        x.addCue(0, 'c', 0, 1, 1);
        x.run(1);
        Check.due("P14 nothing ahead of tick 0", 0, () -> x.noiseAt(0, 1));
        int[] want = {4, 3, 2, 1, 0, 0};
        for (int w : want) {
            x.run(1);
            Check.due("P14 1 less in each tick", w, () -> x.noiseAt(0, 1));
        }
        Check.due("P16 none joins", 0, x::joining);
    }

    private static void neighbours() {
        ClaqueRow x = Scene.claque(9);
        Scene.seat(x, "111", "1h1", "111");
        x.addCue(0, 'c', 0, 1, 1);
        x.run(2);
        Check.due("P16 beside, ahead, behind, at the corners", 8, x::joining);
        ClaqueRow y = Scene.claque(9);
        Scene.seat(y, "11111", "1...1", "1.h.1", "1...1", "11111");
        y.addCue(0, 'c', 0, 1, 30);
        y.run(30);
        Check.due("P16 two seats away", 0, y::joining);
        ClaqueRow z = Scene.claque(9, 9);
        Scene.seat(z, "1........h", "1........1", "h........1");
        z.addCue(0, 'c', 0, 1, 1);
        z.run(2);
        Check.due("P14 not round the row's end", 0, () -> z.noiseAt(0, 0));
        Check.due("P14 beside", 2, () -> z.noiseAt(1, 0));
        Check.due("P14 behind", 2, () -> z.noiseAt(1, 9));
        Check.due("P14 not round the row's beginning", 0, () -> z.noiseAt(2, 9));
        ClaqueRow own = Scene.claque(9);
        Scene.seat(own, "1h");
        own.addCue(0, 'c', 0, 1, 1);
        own.run(2);
        own.clearSeat(0, 1);
        own.run(1);
        Check.due("P16 nobody is a neighbour of oneself", 0, own::joining);
        ClaqueRow tall = Scene.claque(9, 9);
        Scene.seat(tall, "h", "1", "1", ".", ".", "1", "1", "h");
        tall.addCue(0, 'c', 0, 1, 1);
        tall.run(2);
        Check.due("P14 in one column", 2, () -> tall.noiseAt(1, 0));
        Check.due("P14 in one column", 0, () -> tall.noiseAt(2, 0));
        Check.due("P14 in one column", 2, () -> tall.noiseAt(6, 0));
    }

    private static void madeOfTheTickAhead() {
        ClaqueRow x = Scene.claque(9, 9);
        Scene.seat(x, "h11", "h..");
        x.addCue(0, 'c', 0, 1, 1);
        x.run(2);
        Check.due("P14 by 18", 4, () -> x.noiseAt(0, 1));
        Check.due("P14 a tick later only", 0, () -> x.noiseAt(0, 2));
        x.run(1);
        Check.due("P14 fades", 3, () -> x.noiseAt(0, 1));
        Check.due("P14 by 4", 1, () -> x.noiseAt(0, 2));
        ClaqueRow y = Scene.claque(9, 9);
        Scene.seat(y, "11h", "..h");
        y.addCue(0, 'c', 0, 1, 1);
        y.run(2);
        Check.due("P14 the same from the other side", 0, () -> y.noiseAt(0, 0));
        y.run(1);
        Check.due("P14 the same from the other side", 1, () -> y.noiseAt(0, 0));
    }

    private static void rivalsHiss() {
        ClaqueRow x = Scene.claque(6, 6);
        Scene.seat(x, "hrh");
        x.addCue(0, 'c', 0, 1, 3);
        x.run(1);
        Check.due("P17 nothing ahead of tick 0", 0, x::hisses);
        x.run(1);
        Check.due("P17 by 12", 1, x::hisses);
        Check.due("P14 a rival makes no noise", 0, () -> x.noiseAt(0, 1));
        Check.due("P16 a rival never joins", 0, x::joining);
        x.run(5);
        Check.due("P17 once in each tick", 3, x::hisses);
        x.clearSeat(0, 1);
        Check.due("P17 how often stays told", 3, x::hisses);
        ClaqueRow y = Scene.claque(6, 5);
        Scene.seat(y, "hrh");
        y.addCue(0, 'c', 0, 1, 3);
        y.run(9);
        Check.due("P17 11 is not 12", 0, y::hisses);
        ClaqueRow z = Scene.claque(9, 9);
        Scene.seat(z, "hrh", "r.r");
        z.addCue(0, 'c', 0, 1, 1);
        z.run(2);
        Check.due("P17 one by 18, two by 9", 1, z::hisses);
        ClaqueRow two = Scene.claque(9, 9);
        Scene.seat(two, "h.h", "rrr", "...");
        two.addCue(0, 'c', 0, 1, 1);
        two.run(2);
        Check.due("P17 by 18", 1, two::hisses);
        ClaqueRow each = Scene.claque(9, 9);
        Scene.seat(each, "rr", "hh", "rr");
        each.addCue(0, 'c', 0, 1, 1);
        each.run(2);
        Check.due("P17 each rival counts", 4, each::hisses);
        each.endEvening();
        Check.due("P17 gone behind the evening", 0, each::hisses);
    }

    private static void hissTakesFour() {
        // The hands around the payer in the middle make 18, the rival beside it hisses by 18.
        ClaqueRow x = Scene.claque(9, 9);
        Scene.seat(x, "h.", "6r", "h.");
        x.addCue(0, 'c', 0, 1, 30);
        x.run(2);
        Check.due("P16 18 ahead of the hiss", 1, x::joining);
        Check.due("P14 by 18", 4, () -> x.noiseAt(1, 0));
        x.run(1);
        Check.due("P16 14 behind it", 0, x::joining);
        Check.due("P14 fades", 3, () -> x.noiseAt(1, 0));
        Check.due("P17 the rival hears the payer too", 2, x::hisses);
        x.seatRival(1, 1);
        x.run(1);
        Check.due("P16 a rival seated anew has not hissed", 1, x::joining);
        x.endEvening();
        x.addCue(0, 'c', 0, 1, 30);
        x.run(2);
        Check.due("P16 nor has one in a new evening", 1, x::joining);

        // 13 less 4 is 3 times 3, and 12 less 4 is not.
        for (int second : new int[] {4, 3}) {
            ClaqueRow four = Scene.claque(9, second);
            Scene.seat(four, "h.", "3r", "h.");
            four.addCue(0, 'c', 0, 1, 30);
            four.run(2);
            Check.due("P16 9 and " + second + " ahead of the hiss", 1, four::joining);
            Check.due("P17 9 and " + second, 1, four::hisses);
            four.run(1);
            Check.due("P16 9 and " + second + " behind it", second == 4 ? 1 : 0, four::joining);
        }

        // Two rivals beside each other hear 14 both: they hiss, hear 10, are silent, hear 14 ..
        ClaqueRow y = Scene.claque(7, 7);
        Scene.seat(y, "rr", "hh");
        y.addCue(0, 'c', 0, 1, 30);
        int[] want = {0, 2, 2, 4, 4, 6};
        for (int i = 0; i < want.length; i++) {
            int tick = i;
            y.run(1);
            Check.due("P17 in tick " + tick, want[tick], y::hisses);
        }

        // Rivals that do not hiss take nothing.
        ClaqueRow z = Scene.claque(6);
        Scene.seat(z, "h2r");
        z.addCue(0, 'c', 0, 1, 30);
        z.run(5);
        Check.due("P16 by 6 in each tick", 1, z::joining);
        Check.due("P17 no hiss", 0, z::hisses);
    }

    private static void tiredness() {
        ClaqueRow x = Scene.claque(9);
        Scene.seat(x, "h2r.");
        x.addCue(0, 'c', 0, 1, 30);
        Check.due("P18 at first", 0, () -> x.tiredness(0, 1));
        x.run(10);
        Check.due("P18 joined 9 times", 0, () -> x.tiredness(0, 1));
        x.run(1);
        Check.due("P18 joined 10 times", 1, () -> x.tiredness(0, 1));
        x.run(1);
        Check.due("P16 9 is 3 times 3", 1, x::joining);
        x.run(8);
        Check.due("P18 joined 19 times", 1, () -> x.tiredness(0, 1));
        x.run(1);
        Check.due("P16 the twentieth time", 1, x::joining);
        Check.due("P18 joined 20 times", 2, () -> x.tiredness(0, 1));
        x.run(1);
        Check.due("P16 9 is not 3 times 4", 0, x::joining);
        Check.due("P14 fades", 1, () -> x.noiseAt(0, 1));
        x.run(50);
        Check.due("P18 tired all evening", 2, () -> x.tiredness(0, 1));
        Check.due("P18 a hand", UNSUPPORTED, () -> x.tiredness(0, 0));
        Check.due("P18 a rival", UNSUPPORTED, () -> x.tiredness(0, 2));
        Check.due("P18 nobody", UNSUPPORTED, () -> x.tiredness(0, 3));
        Check.due("P18 no seat", INDEX, () -> x.tiredness(0, 4));
        Check.due("P18 no seat", INDEX, () -> x.tiredness(0, -1));
        Check.due("P18 no row", INDEX, () -> x.tiredness(1, 1));
        Check.due("P18 no row", INDEX, () -> x.tiredness(-1, 1));
        x.endEvening();
        Check.due("P18 gone behind the evening", 0, () -> x.tiredness(0, 1));
    }

    private static void calls() {
        ClaqueRow x = Scene.claque(9);
        Scene.seat(x, "h");
        x.setLevel(9);
        x.addCue(0, 'c', 0, 1, 30);
        int[] want = {0, 0, 0, 0, 1, 1, 1, 1, 1, 2, 2, 2, 2, 2, 3};
        for (int i = 0; i < want.length; i++) {
            int tick = i;
            x.run(1);
            Check.due("P20 in tick " + tick, want[tick], x::calls);
        }
        Check.due("P19 the singer's", 3, () -> x.callsOf(0));
        x.endEvening();
        Check.due("P20 gone behind the evening", 0, x::calls);
        Check.due("P19 gone behind the evening", 0, () -> x.callsOf(0));

        ClaqueRow y = Scene.claque(9);
        Scene.seat(y, "h");
        y.setLevel(9);
        y.addCue(0, 'c', 0, 1, 4);
        y.addCue(0, 'c', 5, 1, 4);
        y.run(20);
        Check.due("P20 one behind the other only", 0, y::calls);
        y.endEvening();
        y.addCue(0, 'c', 0, 1, 4);
        y.addCue(0, 'c', 4, 1, 1);
        y.run(20);
        Check.due("P20 by whatever cues", 1, y::calls);

        ClaqueRow z = Scene.claque(9);
        Scene.seat(z, "h");
        z.setLevel(9);
        z.addCue(0, 'c', 0, 1, 30);
        z.run(4);
        z.endEvening();
        z.addCue(0, 'c', 0, 1, 30);
        z.run(4);
        Check.due("P20 loud ticks of one evening", 0, z::calls);
        z.run(1);
        Check.due("P20 the fifth of it", 1, z::calls);
    }

    private static void levelIsReached() {
        ClaqueRow x = Scene.claque(8, 8, 8, 8, 8);
        Scene.seat(x, "h.h.h.h.h");
        x.addCue(0, 'c', 0, 1, 30);
        x.run(5);
        Check.due("P20 40 is loud at first", 1, x::calls);
        x.setLevel(41);
        x.run(20);
        Check.due("P12 40 is not 41", 1, x::calls);
        ClaqueRow y = Scene.claque(8, 8, 8, 8, 7);
        Scene.seat(y, "h.h.h.h.h");
        y.addCue(0, 'c', 0, 1, 30);
        y.run(20);
        Check.due("P20 39 is not 40", 0, y::calls);
        y.setLevel(39);
        y.run(5);
        Check.due("P12 the new level holds at once", 1, y::calls);
        y.run(4);
        y.setLevel(1);
        y.run(1);
        Check.due("P12 loud ticks ahead of it count", 2, y::calls);
    }

    private static void callsOf() {
        ClaqueRow x = Scene.claque(9);
        x.addSinger(20, 1);
        x.addSinger(30, 2);
        Scene.seat(x, "h");
        x.setLevel(1);
        x.addCue(0, 'c', 0, 1, 30);
        x.addCue(2, 'w', 9, 1, 30);
        x.addCue(1, 'w', 9, 1, 30);
        x.addCue(0, 'w', 3, 1, 1);
        x.addCue(2, 'l', 20, 1, 30);
        x.run(5);
        Check.due("P19 of the cue of tick 3, though it is over", 1, () -> x.callsOf(0));
        x.run(5);
        Check.due("P19 of like ones the greater number", 1, () -> x.callsOf(1));
        Check.due("P19 not the smaller one", 0, () -> x.callsOf(2));
        x.run(10);
        Check.due("P19 till the next one begins", 3, () -> x.callsOf(1));
        x.run(5);
        Check.due("P19 of the cue of tick 20", 1, () -> x.callsOf(2));
        Check.due("P20 all", 5, x::calls);
        Check.due("P19 the first one's stay", 1, () -> x.callsOf(0));
        Check.due("P19 no singer", INDEX, () -> x.callsOf(3));
        Check.due("P19 no singer", INDEX, () -> x.callsOf(-1));
        Check.due("P23 each one's night and calls", 50 + 7 + 20 + 3 + 30 + 2, x::endEvening);

        // A cue that begins in the very tick of the call has begun; one of the next tick has not.
        ClaqueRow y = Scene.claque(9);
        y.addSinger(20, 1);
        y.addSinger(30, 2);
        Scene.seat(y, "h");
        y.setLevel(1);
        y.addCue(0, 'c', 0, 1, 30);
        y.addCue(1, 'c', 4, 1, 1);
        y.addCue(2, 'c', 5, 1, 1);
        y.run(5);
        Check.due("P19 of the cue of this tick", 1, () -> y.callsOf(1));
        Check.due("P19 not of that of the next one", 0, () -> y.callsOf(2));
        y.run(5);
        Check.due("P19 which then is the last", 1, () -> y.callsOf(2));
    }

    private static void suspicions() {
        ClaqueRow x = Scene.claque(9);
        Scene.seat(x, "h");
        x.addCue(0, 'c', 0, 1, 2);
        x.addCue(0, 'w', 3, 1, 1);
        x.run(1);
        Check.due("P21 it is not over", 0, x::suspicions);
        x.run(1);
        Check.due("P21 it is over", 1, x::suspicions);
        x.run(1);
        Check.due("P21 for once", 1, x::suspicions);
        x.run(1);
        Check.due("P21 and the next", 2, x::suspicions);
        Check.due("P22 two are not three", false, x::areFoundOut);
        x.endEvening();
        Check.due("P21 gone behind the evening", 0, x::suspicions);

        // The cue is for weeping and the hand laughs: hands of whatever kinds count.
        ClaqueRow y = new ClaqueRow();
        y.addHand('l', 9, 0, 0);
        y.addSinger(0, 0);
        Scene.seat(y, "h");
        y.addCue(0, 'w', 0, 1, 1);
        y.addCue(0, 'w', 1, 1, 1);
        y.addCue(0, 'l', 1, 1, 2);
        y.run(1);
        Check.due("P21 no hand makes noise", 0, y::suspicions);
        y.run(1);
        Check.due("P21 a hand of another kind does", 1, y::suspicions);
    }

    private static void suspicionsCountPayersAndHands() {
        // Fewer payers than hands is wanted: as many are enough.
        ClaqueRow x = Scene.claque(9, 9);
        Scene.seat(x, "h1.1h");
        x.addCue(0, 'c', 0, 1, 1);
        x.addCue(0, 'c', 1, 1, 1);
        x.run(1);
        Check.due("P21 no payer makes noise yet", 1, x::suspicions);
        x.run(1);
        Check.due("P21 two payers, two hands", 1, x::suspicions);
        ClaqueRow y = Scene.claque(9, 9);
        Scene.seat(y, "h1..h");
        y.addCue(0, 'c', 0, 1, 2);
        y.run(2);
        Check.due("P21 one payer, two hands", 1, y::suspicions);
        // Who makes noise without joining counts as well, and who is silent does not.
        ClaqueRow z = new ClaqueRow();
        z.addHand('c', 9, 0, 0);
        z.addHand('w', 9, 0, 0);
        z.addSinger(0, 0);
        Scene.seat(z, "h1.9h");
        z.addCue(0, 'c', 0, 1, 1);
        z.addCue(0, 'w', 2, 1, 1);
        z.run(1);
        Check.due("P21 one hand, no payer", 1, z::suspicions);
        z.run(2);
        Check.due("P16 none joins", 0, z::joining);
        Check.due("P14 but is heard", 1, () -> z.noiseAt(0, 1));
        Check.due("P21 one hand, one payer who fades", 1, z::suspicions);
        // Rivals do not count.
        ClaqueRow r = Scene.claque(9, 9, 9);
        Scene.seat(r, "hrh", "1r.", "h..");
        r.addCue(0, 'c', 0, 1, 3);
        r.run(3);
        Check.due("P21 one payer, three hands", 1, r::suspicions);
    }

    private static void foundOut() {
        ClaqueRow x = Scene.claque(9, 5);
        Scene.seat(x, "h.");
        x.addCue(0, 'c', 0, 1, 1);
        x.addCue(0, 'c', 1, 1, 1);
        x.addCue(0, 'c', 2, 1, 1);
        x.addCue(0, 'c', 3, 1, 30);
        x.run(2);
        Check.due("P22 not by two", false, x::areFoundOut);
        x.run(1);
        Check.due("P21 three", 3, x::suspicions);
        Check.due("P22 by the third", true, x::areFoundOut);
        Check.due("P14 heard in that tick still", 9, () -> x.noiseAt(0, 0));
        x.run(1);
        Check.due("P14 silent from the next one on", 0, () -> x.noiseAt(0, 0));
        x.seatHand(1, 0, 1);
        x.run(1);
        Check.due("P14 all hands, also those seated later", 0, x::noise);
        x.run(50);
        Check.due("P21 silent hands raise none", 3, x::suspicions);
        Check.due("P22 till the evening ends", true, x::areFoundOut);
        x.endEvening();
        Check.due("P22 no more", false, x::areFoundOut);
        x.addCue(0, 'c', 0, 1, 1);
        x.run(1);
        Check.due("P14 heard again", 14, x::noise);
        ClaqueRow fresh = new ClaqueRow();
        Check.due("P22 at first", false, fresh::areFoundOut);
    }

    private static void moreThanThreeSuspicions() {
        ClaqueRow x = Scene.claque(9);
        Scene.seat(x, "h");
        for (int i = 0; i < 5; i++) {
            x.addCue(0, 'c', i, 1, 5 - i);
        }
        x.run(4);
        Check.due("P21 none is over", 0, x::suspicions);
        x.run(1);
        Check.due("P21 one for each cue", 5, x::suspicions);
        Check.due("P22 found out", true, x::areFoundOut);
    }

    private static void toldOfThoseSeatedNow() {
        ClaqueRow x = Scene.claque(9);
        Scene.seat(x, "1h1");
        x.addCue(0, 'c', 0, 1, 30);
        x.run(2);
        Check.due("P15 all", 13, x::noise);
        Check.due("P16 both", 2, x::joining);
        x.clearSeat(0, 0);
        Check.due("P15 without the one who left", 11, x::noise);
        Check.due("P16 without the one who left", 1, x::joining);
        x.seatRival(0, 2);
        Check.due("P15 without the other too", 9, x::noise);
        Check.due("P16 without the other too", 0, x::joining);
        x.seatPayer(0, 1, 1);
        Check.due("P15 without the hand", 0, x::noise);
        Check.due("P15 no house", 0, () -> new ClaqueRow().noise());
    }

    private static void endEvening() {
        ClaqueRow x = new ClaqueRow();
        Check.due("P23 no house", STATE, x::endEvening);
        x.addSinger(30, 5);
        x.addSinger(999, 99);
        x.addSinger(7, 0);
        x.newHouse(1, 1);
        Check.due("P23 nothing was sung", 0, x::endEvening);
        x.addCue(0, 'w', 0, 1, 2);
        Check.due("P23 no tick has gone by", 0, x::endEvening);
        x.addCue(0, 'w', 0, 1, 2);
        x.addCue(0, 'w', 1, 1, 2);
        x.addCue(1, 'w', 2, 1, 2);
        x.addCue(2, 'w', 1, 1, 30);
        x.run(2);
        Check.due("P23 of those whose cue began, once", 37, x::endEvening);
        Check.due("P25 owes the night", 30, () -> x.owed(0));
        Check.due("P25 did not begin", 0, () -> x.owed(1));
        Check.due("P25 owes the night", 7, () -> x.owed(2));
        x.addCue(0, 'w', 0, 1, 2);
        x.run(1);
        Check.due("P23 of this evening", 30, x::endEvening);
        Check.due("P25 of both", 60, () -> x.owed(0));
    }

    private static void endEveningForgets() {
        ClaqueRow x = Scene.claque(9, 9);
        Scene.seat(x, "h1r", "h..");
        x.setLevel(1);
        x.addCue(0, 'c', 0, 1, 30);
        x.run(12);
        Check.due("P23 night and two calls", 64, x::endEvening);
        Check.due("P23 no noise", 0, x::noise);
        Check.due("P23 none joining", 0, x::joining);
        Check.due("P23 not tired", 0, () -> x.tiredness(0, 1));
        Check.due("P23 seats stay", 'h', () -> x.seatAt(0, 0));
        Check.due("P23 seats stay", 'p', () -> x.seatAt(0, 1));
        Check.due("P23 seats stay", 'r', () -> x.seatAt(0, 2));
        Check.due("P23 seats stay", 'h', () -> x.seatAt(1, 0));
        Check.due("P23 nothing more", 0, x::endEvening);
        x.run(1);
        Check.due("P23 no cue is left", 0, x::noise);
        x.addCue(0, 'c', 1, 1, 30);
        x.run(2);
        Check.due("P23 thresholds stay", 1, x::joining);
    }
}
