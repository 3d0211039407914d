import java.util.Arrays;

/** Sentences of the document's terms that name a boundary: each has a test of its own, on both sides of it. */
public final class TermsTest {
    private static final Class<?> INDEX = IndexOutOfBoundsException.class;

    public static void main(String[] args) {
        noneAtFirst();
        eachOfEightNeighbours();
        neighboursInTheCorners();
        neighboursAtTheEdges();
        handIsInOneSeatAtMost();
        ticksAreCountedFromZero();
        cueIsOverWithItsLastTick();
        cuesOfOneTickBesideEachOther();
        noisesAreZeroToNine();
        handSeatedAnewIsHeardFromTheNextTick();
        seatedAnewIsZeroForNeighbours();
        whoLeftIsNotHeard();
        figuresAreOfThoseSeatedNow();
        strengthTimesForce();
        greatestOfSeveralCues();
        lessFourForEachRival();
        rivalHearsHissesToo();
        hissOfTheTickAheadAlone();
        aroundBelowZero();
        joinsFromThreeTimesEachThreshold();
        fourthIsCut();
        fadesNotBelowZero();
        tirednessCountsThreeTimes();
        tirednessCountsJoinsOfTheEvening();
        sumOfAtLeastTheLevel();
        lowestAndHighestLevel();
        fifthLoudTick();
        loudTicksAreCountedAnew();
        callIsForTheCueThatBeganLast();
        ofLikeCuesTheGreaterNumber();
        fewerPayersThanHands();
        suspicionForEachCue();
        thirdSuspicion();
        foundOutTillTheNextEvening();
        Check.end("TermsTest");
    }

    /** A row with these hands side by side, and a level. */
    private static ClaqueRow rowOfHands(int level, int... strengths) {
        ClaqueRow x = Scene.claque(strengths);
        Scene.seat(x, "h".repeat(strengths.length));
        x.setLevel(level);
        return x;
    }

    private static void noneAtFirst() {
        ClaqueRow x = new ClaqueRow();
        Check.due("none at first: noise", 0, x::noise);
        Check.due("none at first: the first hand is 0", 0, () -> x.addHand('c', 1, 0, 0));
        Check.due("none at first: the first singer is 0", 0, () -> x.addSinger(0, 0));
        Check.due("none at first: the first cue is 0", 0, () -> x.addCue(0, 'c', 0, 1, 1));
        Check.due("none at first: no seat", INDEX, () -> x.seatHand(0, 0, 0));
        Check.due("none at first: then there are", '.', () -> x.newHouse(1, 1) == 1 ? x.seatHand(0, 0, 0) : '?');
    }

    /** 27 around a threshold of 9 is enough, and none of it may be missing. */
    private static void eachOfEightNeighbours() {
        int[] strengths = {3, 3, 3, 3, 3, 4, 4, 4};
        ClaqueRow all = Scene.payerAmong(9, strengths);
        all.run(2);
        Check.due("8 neighbours: all", 1, all::joining);
        for (int place = 0; place < 9; place++) {
            int row = place / 3;
            int seat = place % 3;
            if (place != 4) {
                ClaqueRow x = Scene.payerAmong(9, strengths);
                x.clearSeat(row, seat);
                x.run(2);
                Check.due("8 neighbours: without row " + row + ", seat " + seat, 0, x::joining);
            }
        }
    }

    private static void neighboursInTheCorners() {
        String[][] corners = {
            {"9h.......h", "hh.......h", "..........", ".........h"},
            {"h.......h9", "h.......hh", "..........", "h........."},
            {".........h", "..........", "hh.......h", "9h.......h"},
            {"h.........", "..........", "h.......hh", "h.......h9"}};
        for (String[] rows : corners) {
            ClaqueRow x = Scene.claque(9, 9, 9, 9, 9, 9);
            Scene.seat(x, rows);
            x.addCue(0, 'c', 0, 1, 30);
            x.run(2);
            Check.due("a corner has 3 neighbours: " + String.join("/", rows), 1, x::joining);
            removeOneNeighbour(x, rows);
            x.run(1);
            Check.due("and no other ones: " + String.join("/", rows), 0, x::joining);
        }
    }

    private static void removeOneNeighbour(ClaqueRow x, String[] rows) {
        int row = rows[0].contains("9") ? 0 : 3;
        x.clearSeat(row, rows[row].charAt(0) == '9' ? 1 : 8);
    }

    private static void neighboursAtTheEdges() {
        String[][] edges = {
            {"h9h", "hhh", "...", "hhh"},
            {"hhh", "...", "hhh", "h9h"},
            {"hh.h", "9h.h", "hh.h"},
            {"h.hh", "h.h9", "h.hh"}};
        for (String[] rows : edges) {
            ClaqueRow x = Scene.claque(2, 2, 2, 2, 2, 2, 2, 2, 2);
            Scene.seat(x, rows);
            x.addCue(0, 'c', 0, 3, 30);
            x.run(2);
            Check.due("an edge has 5 neighbours: " + String.join("/", rows), 1, x::joining);
            Check.due("of 6 each: " + String.join("/", rows), 7, () -> noiseOfThePayer(x, rows));
        }
    }

    private static int noiseOfThePayer(ClaqueRow x, String[] rows) {
        for (int row = 0; row < rows.length; row++) {
            int seat = rows[row].indexOf('9');
            if (seat >= 0) {
                return x.noiseAt(row, seat);
            }
        }
        return -1;
    }

    private static void handIsInOneSeatAtMost() {
        ClaqueRow x = Scene.claque(1, 1);
        x.newHouse(3, 4);
        for (int place = 0; place < 12; place++) {
            x.seatHand(0, place / 4, place % 4);
            Check.due("one seat at most: seats taken", 1, () -> seatsTaken(x));
        }
        Check.due("one seat at most: over it", 'h', () -> x.seatHand(1, 2, 3));
        Check.due("one seat at most: seats taken", 1, () -> seatsTaken(x));
        Check.due("one seat at most: it has none", false, () -> x.isSeated(0));
        Check.due("one seat at most: back, beside it", '.', () -> x.seatHand(0, 2, 2));
        Check.due("one seat at most: each one has one", 2, () -> seatsTaken(x));
    }

    private static int seatsTaken(ClaqueRow x) {
        int taken = 0;
        for (int place = 0; place < 12; place++) {
            taken += x.seatAt(place / 4, place % 4) == 'h' ? 1 : 0;
        }
        return taken;
    }

    private static void ticksAreCountedFromZero() {
        ClaqueRow x = rowOfHands(40, 5);
        x.addCue(0, 'c', 0, 1, 1);
        Check.due("from 0: ahead of the first tick", 0, x::noise);
        Check.due("from 0: one tick", 1, () -> x.run(1));
        Check.due("from 0: tick 0 was the first one", 5, x::noise);
        Check.due("from 0: the next one is tick 1", 0, () -> x.addCue(0, 'c', 1, 1, 1) == 1 ? x.noise() - 5 : -1);
        x.run(1);
        Check.due("from 0: its cue is on", 5, x::noise);
        x.run(1);
        Check.due("from 0: for one tick", 0, x::noise);
    }

    /** A suspicion is raised by a lone hand in just that tick with which the cue is over. */
    private static void cueIsOverWithItsLastTick() {
        for (int ticks : new int[] {1, 2, 29, 30}) {
            for (int from : new int[] {0, 1, 60}) {
                ClaqueRow x = rowOfHands(40, 5);
                x.addCue(0, 'c', from, 1, ticks);
                for (int i = 0; i < from + ticks - 1; i++) {
                    x.run(1);
                }
                String what = "over with the last of " + ticks + " ticks from " + from;
                Check.due(what + ": not yet", 0, x::suspicions);
                x.run(1);
                Check.due(what + ": still on", 5, x::noise);
                Check.due(what + ": over", 1, x::suspicions);
                x.run(1);
                Check.due(what + ": no more on", 0, x::noise);
                Check.due(what + ": over for once", 1, x::suspicions);
            }
        }
    }

    private static void cuesOfOneTickBesideEachOther() {
        ClaqueRow x = rowOfHands(40, 2);
        x.addCue(0, 'c', 0, 1, 1);
        x.addCue(0, 'c', 1, 2, 1);
        x.addCue(0, 'c', 2, 3, 1);
        for (int noise : new int[] {2, 4, 6, 0}) {
            x.run(1);
            Check.due("on for as many ticks", noise, x::noise);
        }
    }

    private static void noisesAreZeroToNine() {
        ClaqueRow x = Scene.payerAmong(1, 9, 9, 9, 9, 9, 9, 9, 9);
        for (int place = 0; place < 9; place++) {
            int row = place / 3;
            int seat = place % 3;
            Check.due("0 at first", 0, () -> x.noiseAt(row, seat));
        }
        x.addCue(0, 'c', 0, 3, 30);
        x.run(2);
        for (int place = 0; place < 9; place++) {
            int row = place / 3;
            int seat = place % 3;
            Check.due("9 at most, by 27 and by 72", 9, () -> x.noiseAt(row, seat));
        }
        Check.due("9 at most: the sum of all is more", 81, x::noise);
    }

    private static void handSeatedAnewIsHeardFromTheNextTick() {
        ClaqueRow x = rowOfHands(40, 5, 6);
        x.addHand('a', 7, 0, 0);
        x.addCue(0, 'c', 0, 1, 30);
        x.run(3);
        Check.due("seated anew: a hand over a hand", 'h', () -> x.seatHand(2, 0, 0));
        Check.due("seated anew: 0 at first", 0, () -> x.noiseAt(0, 0));
        Check.due("seated anew: the other stays", 6, () -> x.noiseAt(0, 1));
        x.run(1);
        Check.due("seated anew: heard in the next tick", 7, () -> x.noiseAt(0, 0));
        x.clearSeat(0, 0);
        x.seatHand(2, 0, 0);
        Check.due("seated anew: back in its own seat", 0, () -> x.noiseAt(0, 0));
        x.seatRival(0, 0);
        Check.due("seated anew: a rival", 0, () -> x.noiseAt(0, 0));
        x.seatPayer(0, 1, 1);
        Check.due("seated anew: a payer", 0, () -> x.noiseAt(0, 1));
    }

    private static void seatedAnewIsZeroForNeighbours() {
        ClaqueRow x = Scene.payerAmong(3, 9);
        x.addHand('a', 9, 0, 0);
        x.run(2);
        Check.due("9 around", 1, x::joining);
        x.seatHand(1, 0, 0);
        x.run(1);
        Check.due("0 around, as the hand is seated anew", 0, x::joining);
        x.run(1);
        Check.due("9 around again", 1, x::joining);
        x.seatHand(1, 0, 1);
        x.run(1);
        Check.due("0 around, as the hand moved", 0, x::joining);
    }

    private static void whoLeftIsNotHeard() {
        ClaqueRow x = Scene.payerAmong(1, 9);
        x.run(2);
        x.clearSeat(0, 0);
        x.run(1);
        Check.due("who left is not heard", 0, x::joining);
        ClaqueRow y = Scene.payerAmong(1, 9);
        y.run(2);
        y.seatHand(0, 2, 2);
        y.run(1);
        Check.due("who moved is heard from neither seat", 0, y::joining);
    }

    private static void figuresAreOfThoseSeatedNow() {
        ClaqueRow x = Scene.claque(9);
        Scene.seat(x, "1h1.");
        x.addCue(0, 'c', 0, 1, 30);
        x.run(2);
        Check.due("seated now: both", 1.0f, x::joiningShare);
        Check.due("seated now: 2, 9, 2", 13.0 / 4.0, x::meanNoise);
        x.seatPayer(0, 3, 1);
        Check.due("seated now: a third who did not join", 2.0f / 3.0f, x::joiningShare);
        x.seatPayer(0, 0, 1);
        Check.due("seated now: one of three", 1.0f / 3.0f, x::joiningShare);
        Check.due("seated now: 9 and 2", 11.0 / 4.0, x::meanNoise);
        x.clearSeat(0, 2);
        Check.due("seated now: none of two", 0.0f, x::joiningShare);
        Check.due("seated now: 9", 9.0 / 4.0, x::meanNoise);
        Check.due("seated now: the checksum", (7L * 31 * 31 + 9) * 31 * 31 * 31 * 31 * 31 * 31 * 31, x::checksum);
        x.seatHand(0, 0, 2);
        Check.due("seated now: the hand moved", 0.0, x::meanNoise);
    }

    private static void strengthTimesForce() {
        int[][] due = {{1, 2, 3, 4, 5, 6, 7, 8, 9}, {2, 4, 6, 8, 9, 9, 9, 9, 9}, {3, 6, 9, 9, 9, 9, 9, 9, 9}};
        for (int i = 0; i < 27; i++) {
            int force = i / 9 + 1;
            int strength = i % 9 + 1;
            ClaqueRow x = rowOfHands(40, strength);
            x.addCue(0, 'c', 0, force, 1);
            x.run(1);
            Check.due(strength + " times " + force, due[force - 1][strength - 1], x::noise);
            x.run(1);
            Check.due(strength + ", without a cue", 0, x::noise);
        }
    }

    /** In each order of the cues: neither the first one nor the last one, and not their sum. */
    private static void greatestOfSeveralCues() {
        int[][] orders = {{1, 2, 3}, {1, 3, 2}, {2, 1, 3}, {2, 3, 1}, {3, 1, 2}, {3, 2, 1}};
        for (int[] forces : orders) {
            ClaqueRow x = Scene.claque(1);
            x.addHand('w', 2, 0, 0);
            Scene.seat(x, "hh");
            x.addCue(0, 'c', 0, forces[0], 1);
            x.addCue(0, 'w', 0, forces[1], 1);
            x.addCue(0, 'c', 0, forces[2], 1);
            x.run(1);
            Check.due("the greatest of several", 3, () -> x.noiseAt(0, 0));
            Check.due("the one of its kind", 2 * forces[1], () -> x.noiseAt(0, 1));
        }
        ClaqueRow x = rowOfHands(40, 1);
        x.addCue(0, 'c', 0, 3, 1);
        x.addCue(0, 'c', 0, 1, 2);
        x.addCue(0, 'c', 2, 3, 1);
        x.run(2);
        Check.due("the greatest of those that are on", 1, x::noise);
    }

    /** Rivals who hiss from tick 1 on: from tick 2 on a payer beside them, who wants 9, hears so much less. */
    private static void lessFourForEachRival() {
        joinsBesideRivals(0, 1, ".h.", ".3.", 9);
        joinsBesideRivals(0, 0, ".h.", ".3.", 8);
        joinsBesideRivals(1, 1, "hh.", "r3.", 4, 9);
        joinsBesideRivals(1, 0, "hh.", "r3.", 4, 8);
        joinsBesideRivals(2, 1, "hhh", "r3r", 4, 9, 4);
        joinsBesideRivals(2, 0, "hhh", "r3r", 4, 8, 4);
    }

    private static void joinsBesideRivals(int rivals, int due, String ahead, String behind, int... strengths) {
        ClaqueRow x = Scene.claque(strengths);
        Scene.seat(x, ahead, behind);
        x.addCue(0, 'c', 0, 1, 30);
        x.run(3);
        String what = ahead + " " + Arrays.toString(strengths) + " ahead of " + behind;
        Check.due("less 4 for each rival: " + what, due, x::joining);
        Check.due("each of them hissed twice: " + what, 2 * rivals, x::hisses);
    }

    private static void rivalHearsHissesToo() {
        for (int strength : new int[] {8, 7}) {
            ClaqueRow x = Scene.claque(strength, strength);
            Scene.seat(x, "hr", "hr");
            x.addCue(0, 'c', 0, 1, 30);
            x.run(2);
            Check.due("both rivals hiss by twice " + strength, 2, x::hisses);
            x.run(1);
            Check.due("less 4 for the other one", strength == 8 ? 4 : 2, x::hisses);
        }
    }

    /** The rival hisses in tick 1 alone: what it takes is taken in tick 2 alone. */
    private static void hissOfTheTickAheadAlone() {
        ClaqueRow x = Scene.claque(4, 9);
        Scene.seat(x, "hh", "4r");
        x.addCue(0, 'c', 0, 1, 1);
        x.addCue(0, 'c', 2, 1, 1);
        x.run(2);
        Check.due("by 13 the payer joins", 1, x::joining);
        Check.due("by 13 the rival hisses", 1, x::hisses);
        x.run(1);
        Check.due("by 0 less 4 none joins", 0, x::joining);
        Check.due("by the payer's 3 none hisses", 1, x::hisses);
        x.run(1);
        Check.due("by 13, as there was no hiss in the tick ahead", 1, x::joining);
    }

    private static void aroundBelowZero() {
        ClaqueRow x = Scene.claque(9, 9);
        Scene.seat(x, "hh..", "rr..", "11..");
        x.addCue(0, 'c', 0, 1, 30);
        x.run(2);
        Check.due("both rivals hiss by 18", 2, x::hisses);
        x.run(5);
        Check.due("around is below 0: none joins", 0, x::joining);
        Check.due("around is below 0: silent", 0, () -> x.noiseAt(2, 0));
        Check.due("around is below 0: silent", 0, () -> x.noiseAt(2, 1));
        Check.due("around is below 0: the sum", 18, x::noise);
    }

    private static void joinsFromThreeTimesEachThreshold() {
        for (int i = 1; i <= 9; i++) {
            int threshold = i;
            ClaqueRow x = Scene.payerAmong(threshold, Scene.strengthsOf(3 * threshold));
            x.run(2);
            Check.due("at least 3 times " + threshold + ": by as much", 1, x::joining);
            ClaqueRow y = Scene.payerAmong(threshold, Scene.strengthsOf(3 * threshold - 1));
            y.run(2);
            Check.due("at least 3 times " + threshold + ": by 1 less", 0, y::joining);
        }
    }

    private static void fourthIsCut() {
        int[] due = {1, 1, 1, 1, 1, 2, 2, 2, 2, 3, 3, 3, 3, 4, 4, 4, 4, 5, 5, 5, 5, 6, 6, 6, 6, 7, 7, 7, 7, 8, 8, 8, 8,
            9, 9, 9, 9, 9, 9, 9, 9, 9};
        for (int i = 0; i < due.length; i++) {
            int around = i + 3;
            ClaqueRow x = Scene.payerAmong(1, Scene.strengthsOf(around));
            x.run(2);
            Check.due("a fourth of " + around + ", from 1 to 9", due[around - 3], () -> x.noiseAt(1, 1));
        }
    }

    private static void fadesNotBelowZero() {
        ClaqueRow x = Scene.payerAmong(1, 9, 9, 9, 9);
        x.run(2);
        for (int i = 0; i < 4; i++) {
            x.clearSeat(i / 3, i % 3);
        }
        for (int noise : new int[] {8, 7, 6, 5, 4, 3, 2, 1, 0, 0, 0}) {
            x.run(1);
            Check.due("1 less, not below 0", noise, () -> x.noiseAt(1, 1));
            Check.due("without joining", 0, x::joining);
        }
    }

    /** Tired by ten joins, a threshold of 1 wants 6 and not 5, and by twenty 9 and not 8. */
    private static void tirednessCountsThreeTimes() {
        for (int tens = 1; tens <= 2; tens++) {
            for (int less = 0; less <= 1; less++) {
                int wanted = 3 * (1 + tens);
                ClaqueRow x = Scene.claque();
                x.addHand('c', 9, 0, 0);
                x.addHand('w', wanted - less, 0, 0);
                Scene.seat(x, "h1h");
                x.addCue(0, 'c', 0, 1, 10 * tens);
                x.addCue(0, 'w', 10 * tens, 1, 30);
                x.run(10 * tens + 1);
                int tiredness = tens;
                Check.due("tired by " + 10 * tens + " joins", tiredness, () -> x.tiredness(0, 1));
                x.run(1);
                Check.due("by " + (wanted - less) + " at a tiredness of " + tens, 1 - less, x::joining);
            }
        }
    }

    /** Joins need not be one behind the other, and ticks without joining do not count. */
    private static void tirednessCountsJoinsOfTheEvening() {
        ClaqueRow x = Scene.claque(9);
        Scene.seat(x, "h1");
        for (int i = 0; i < 11; i++) {
            x.addCue(0, 'c', 2 * i, 1, 1);
        }
        x.run(19);
        Check.due("9 joins in 19 ticks", 0, () -> x.tiredness(0, 1));
        x.run(1);
        Check.due("10 joins in 20 ticks", 1, () -> x.tiredness(0, 1));
        x.run(80);
        Check.due("11 joins in 100 ticks", 1, () -> x.tiredness(0, 1));
    }

    private static void sumOfAtLeastTheLevel() {
        int[] sums = {39, 40, 41};
        for (int sum : sums) {
            ClaqueRow x = Scene.claque(Scene.strengthsOf(sum));
            Scene.seat(x, "h".repeat(5));
            x.addCue(0, 'c', 0, 1, 30);
            x.run(5);
            Check.due("the level is 40 at first: by " + sum, sum >= 40 ? 1 : 0, x::calls);
        }
        for (int level : new int[] {9, 10, 11}) {
            ClaqueRow x = rowOfHands(level, 9, 1);
            x.addCue(0, 'c', 0, 1, 30);
            x.run(5);
            Check.due("by 10 at a level of " + level, level <= 10 ? 1 : 0, x::calls);
        }
    }

    private static void lowestAndHighestLevel() {
        ClaqueRow x = rowOfHands(1, 1);
        x.run(5);
        Check.due("silence is not loud at a level of 1", 0, x::calls);
        x.addCue(0, 'c', 5, 1, 5);
        x.run(5);
        Check.due("a noise of 1 is", 1, x::calls);
        ClaqueRow y = rowOfHands(999, 9, 9, 9, 9, 9, 9, 9, 9, 9);
        y.addCue(0, 'c', 0, 3, 30);
        y.run(30);
        Check.due("81 is not loud at a level of 999", 0, y::calls);
    }

    private static void fifthLoudTick() {
        int[][] pauses = {{4, 0}, {5, 1}, {9, 1}, {10, 2}, {14, 2}, {15, 3}};
        for (int[] p : pauses) {
            ClaqueRow x = rowOfHands(1, 1);
            x.addCue(0, 'c', 0, 1, p[0]);
            x.run(40);
            Check.due(p[0] + " loud ticks", p[1], x::calls);
        }
    }

    /** A tick that is not loud breaks the count; a call begins it anew. */
    private static void loudTicksAreCountedAnew() {
        ClaqueRow x = rowOfHands(1, 1);
        x.addCue(0, 'c', 0, 1, 4);
        x.addCue(0, 'c', 5, 1, 9);
        x.addCue(0, 'c', 15, 1, 5);
        x.run(9);
        Check.due("4 loud ticks, a pause, 4 loud ticks", 0, x::calls);
        x.run(1);
        Check.due("5 behind the pause", 1, x::calls);
        x.run(9);
        Check.due("4 behind the call, a pause, 4", 1, x::calls);
        x.run(1);
        Check.due("5 behind that", 2, x::calls);
    }

    private static ClaqueRow withThreeSingers() {
        ClaqueRow x = rowOfHands(1, 1);
        x.addSinger(1, 1);
        x.addSinger(2, 2);
        x.addCue(0, 'c', 0, 1, 30);
        return x;
    }

    /** By its tick, not by its number, and not by when it is over; that of the call's own tick has begun. */
    private static void callIsForTheCueThatBeganLast() {
        ClaqueRow x = withThreeSingers();
        x.addCue(1, 'w', 3, 1, 1);
        x.addCue(2, 'w', 2, 1, 30);
        x.run(5);
        Check.due("the one that began last, though over", 1, () -> x.callsOf(1));
        Check.due("not the one that was added last", 0, () -> x.callsOf(2));
        for (int tick = 3; tick <= 5; tick++) {
            ClaqueRow y = withThreeSingers();
            y.addCue(1, 'w', tick, 1, 1);
            y.run(5);
            Check.due("one that begins in tick " + tick + " of a call in tick 4", tick <= 4 ? 1 : 0,
                () -> y.callsOf(1));
            Check.due("and else the one ahead of it", tick <= 4 ? 0 : 1, () -> y.callsOf(0));
        }
    }

    private static void ofLikeCuesTheGreaterNumber() {
        ClaqueRow x = withThreeSingers();
        x.addCue(2, 'w', 0, 3, 20);
        x.addCue(1, 'w', 0, 1, 20);
        x.run(5);
        Check.due("of like ones the greater number", 1, () -> x.callsOf(1));
        Check.due("not a smaller number", 0, () -> x.callsOf(2));
        Check.due("not the smallest number", 0, () -> x.callsOf(0));
        x.addCue(0, 'w', 7, 1, 20);
        x.addCue(2, 'w', 7, 1, 20);
        x.addCue(1, 'w', 6, 1, 20);
        x.run(5);
        Check.due("of like ones that began last", 1, () -> x.callsOf(2));
        Check.due("not one that began ahead of them", 1, () -> x.callsOf(1));
    }

    /** So many payers and so many hands make noise in tick 1, with which a cue is over. */
    private static void fewerPayersThanHands() {
        String[] scenes = {"0 0 ..........", "0 1 h.........", "1 1 h1........", "1 2 h1h.......", "2 1 1h1.......",
            "2 2 1h.h1.....", "2 3 h1h1h.....", "3 2 1h1h1.....", "1 1 h1.9......", "1 2 h1rh......"};
        for (String scene : scenes) {
            int payers = scene.charAt(0) - '0';
            int hands = scene.charAt(2) - '0';
            ClaqueRow x = Scene.claque(9, 9, 9);
            Scene.seat(x, scene.substring(4));
            x.addCue(0, 'c', 0, 1, 2);
            x.run(2);
            Check.due("payers and hands: " + scene, payers < hands ? 1 : 0, x::suspicions);
        }
    }

    private static void suspicionForEachCue() {
        ClaqueRow x = rowOfHands(40, 5);
        x.addCue(0, 'c', 0, 1, 3);
        x.addCue(0, 'w', 2, 1, 1);
        x.addCue(0, 'l', 2, 1, 2);
        x.run(2);
        Check.due("no cue is over", 0, x::suspicions);
        x.run(1);
        Check.due("two are over with one tick", 2, x::suspicions);
        Check.due("two are not three", false, x::areFoundOut);
        x.run(1);
        Check.due("the third one", 3, x::suspicions);
        Check.due("found out", true, x::areFoundOut);
    }

    private static void thirdSuspicion() {
        for (int cues = 2; cues <= 4; cues++) {
            ClaqueRow x = rowOfHands(40, 5, 6);
            for (int i = 0; i < cues; i++) {
                x.addCue(0, 'c', 0, 1, 1);
            }
            x.addCue(0, 'c', 1, 1, 30);
            x.run(1);
            boolean foundOut = cues >= 3;
            Check.due("by " + cues + " at once", foundOut, x::areFoundOut);
            Check.due("noise in that tick still", 11, x::noise);
            x.run(1);
            Check.due("from the next tick on, by " + cues, foundOut ? 0 : 11, x::noise);
        }
    }

    private static ClaqueRow foundOut() {
        ClaqueRow x = rowOfHands(40, 5);
        for (int i = 0; i < 3; i++) {
            x.addCue(0, 'c', 0, 1, 1);
        }
        x.addCue(0, 'c', 1, 1, 30);
        x.run(20);
        return x;
    }

    private static void foundOutTillTheNextEvening() {
        ClaqueRow x = foundOut();
        Check.due("silent till then", 0, x::noise);
        x.addHand('a', 7, 0, 0);
        x.seatHand(1, 0, 0);
        x.run(1);
        Check.due("also one seated later", 0, x::noise);
        x.endEvening();
        Check.due("the next evening", false, x::areFoundOut);
        x.addCue(0, 'c', 0, 1, 1);
        x.run(1);
        Check.due("heard in its first tick", 7, x::noise);
        ClaqueRow y = foundOut();
        y.newHouse(1, 1);
        Check.due("that of a new house too", false, y::areFoundOut);
        y.seatHand(0, 0, 0);
        y.addCue(0, 'c', 0, 1, 1);
        y.run(1);
        Check.due("heard in its first tick", 5, y::noise);
    }
}
