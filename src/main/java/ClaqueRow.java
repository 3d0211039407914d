import java.util.ArrayList;
import java.util.NoSuchElementException;

public final class ClaqueRow {
    private static final char NOBODY = '.';
    private static final char PAYER = 'p';
    private static final char RIVAL = 'r';
    private static final char HAND = 'h';
    private static final char ALL_KINDS = 'a';

    private static final int MOST_ROWS = 8;
    private static final int MOST_SEATS_IN_ROW = 10;
    private static final int MOST_HANDS = 12;
    private static final int MOST_SINGERS = 6;
    private static final int MOST_CUES = 12;
    private static final int MOST_NOISE = 9;

    private static final int FIRST_LEVEL = 40;
    private static final int LOUD_TICKS_FOR_CALL = 5;
    private static final int SUSPICIONS_TO_FIND_OUT = 3;
    private static final int HISS_FROM = 12;
    private static final int HISS_TAKES = 4;
    private static final int JOIN_FACTOR = 3;
    private static final int JOINS_TO_TIRE = 10;
    private static final int JOIN_NOISE_PART = 4;
    private static final int CHIEFS_PARTS = 5;
    private static final int STRENGTH_FOR_CALL = 6;

    private final House house = new House();
    private final Troupe troupe = new Troupe();
    private final ArrayList<Singer> singers = new ArrayList<Singer>();
    private final Evening evening = new Evening();
    private int purse = 0;
    private int chiefsMoney = 0;

    public ClaqueRow() {
    }

    // ---- the house

    public int newHouse(int rows, int seats) throws IllegalArgumentException {
        checkRange(rows, 1, MOST_ROWS);
        checkRange(seats, 1, MOST_SEATS_IN_ROW);
        house.build(rows, seats);
        beginEvening();
        return rows * seats;
    }

    public char seatPayer(int row, int seat, int threshold)
            throws IndexOutOfBoundsException, IllegalArgumentException {
        Seat place = existingSeat(row, seat);
        checkRange(threshold, 1, 9);
        char before = place.take(PAYER);
        place.threshold = threshold;
        return before;
    }

    public char seatRival(int row, int seat) throws IndexOutOfBoundsException {
        return existingSeat(row, seat).take(RIVAL);
    }

    public char seatHand(int hand, int row, int seat)
            throws IndexOutOfBoundsException, UnsupportedOperationException {
        Hand mover = existingHand(hand);
        Seat place = existingSeat(row, seat);
        if (mover.seat == place) {
            throw new UnsupportedOperationException("this hand is there");
        }
        if (mover.seat != null) {
            mover.seat.take(NOBODY);
        }
        char before = place.take(HAND);
        place.hand = mover;
        mover.seat = place;
        return before;
    }

    public char clearSeat(int row, int seat) throws IndexOutOfBoundsException {
        return existingSeat(row, seat).take(NOBODY);
    }

    public char seatAt(int row, int seat) throws IndexOutOfBoundsException {
        return existingSeat(row, seat).who;
    }

    public int addHand(char kind, int strength, int rank, int price)
            throws IllegalArgumentException, IllegalStateException {
        if (kind != ALL_KINDS) {
            checkCueKind(kind);
        }
        checkRange(strength, 1, 9);
        checkRange(rank, 0, 3);
        checkRange(price, 0, 99);
        if (troupe.hands.size() >= MOST_HANDS) {
            throw new IllegalStateException("there are 12 hands");
        }
        troupe.hands.add(new Hand(kind, strength, rank, price));
        return troupe.hands.size() - 1;
    }

    public boolean isSeated(int hand) throws IndexOutOfBoundsException {
        return existingHand(hand).seat != null;
    }

    // ---- singers, cues, evenings

    public int addSinger(int night, int perCall) throws IllegalArgumentException, IllegalStateException {
        checkRange(night, 0, 999);
        checkRange(perCall, 0, 99);
        if (singers.size() >= MOST_SINGERS) {
            throw new IllegalStateException("there are 6 singers");
        }
        singers.add(new Singer(night, perCall));
        return singers.size() - 1;
    }

    public int addCue(int singer, char kind, int tick, int force, int ticks)
            throws IndexOutOfBoundsException, IllegalArgumentException, UnsupportedOperationException,
            IllegalStateException {
        Singer star = existingSinger(singer);
        checkCueKind(kind);
        checkRange(tick, 0, 299);
        checkRange(force, 1, 3);
        checkRange(ticks, 1, 30);
        if (tick < evening.ticks) {
            throw new UnsupportedOperationException("the tick has gone by");
        }
        if (evening.cues.size() >= MOST_CUES) {
            throw new IllegalStateException("there are 12 cues");
        }
        evening.cues.add(new Cue(star, kind, tick, force, ticks));
        return evening.cues.size() - 1;
    }

    public int setLevel(int level) throws IllegalArgumentException {
        checkRange(level, 1, 999);
        int before = evening.level;
        evening.level = level;
        return before;
    }

    public int run(int ticks) throws IllegalArgumentException, IllegalStateException {
        checkRange(ticks, 1, 100);
        checkHouse();
        for (int i = 0; i < ticks; i++) {
            evening.passTick(house);
        }
        return evening.ticks;
    }

    public int noiseAt(int row, int seat) throws IndexOutOfBoundsException {
        return existingSeat(row, seat).noise;
    }

    public int noise() {
        return house.noiseSum();
    }

    public int joining() {
        return house.countJoined();
    }

    public int hisses() {
        return evening.hisses;
    }

    public int tiredness(int row, int seat) throws IndexOutOfBoundsException, UnsupportedOperationException {
        Seat place = existingSeat(row, seat);
        if (place.who != PAYER) {
            throw new UnsupportedOperationException("there is no payer");
        }
        return place.tirednessNow();
    }

    public int callsOf(int singer) throws IndexOutOfBoundsException {
        return existingSinger(singer).calls;
    }

    public int calls() {
        return evening.calls;
    }

    public int suspicions() {
        return evening.suspicions;
    }

    public boolean areFoundOut() {
        return evening.handsAreFoundOut();
    }

    public int endEvening() throws IllegalStateException {
        checkHouse();
        int bill = 0;
        for (int i = 0; i < singers.size(); i++) {
            bill += billFor(singers.get(i));
        }
        house.forgetEvening();
        beginEvening();
        return bill;
    }

    // ---- money, plans

    public int pay(int singer, int money)
            throws IndexOutOfBoundsException, IllegalArgumentException, UnsupportedOperationException {
        Singer debtor = existingSinger(singer);
        checkRange(money, 1, 99999);
        if (debtor.owed <= 0) {
            throw new UnsupportedOperationException("nothing is owed");
        }
        int paid = Math.min(money, debtor.owed);
        debtor.owed -= paid;
        purse += paid;
        return debtor.owed;
    }

    public int owed(int singer) throws IndexOutOfBoundsException {
        return existingSinger(singer).owed;
    }

    public int purse() {
        return purse;
    }

    public int share() throws UnsupportedOperationException {
        if (purse <= 0) {
            throw new UnsupportedOperationException("the purse is empty");
        }
        int rest = troupe.shareOut(purse);
        purse = 0;
        chiefsMoney += rest;
        return rest;
    }

    public int moneyOf(int hand) throws IndexOutOfBoundsException {
        return existingHand(hand).money;
    }

    public int chiefs() {
        return chiefsMoney;
    }

    public int planCost(int calls) throws IllegalArgumentException, NoSuchElementException {
        checkRange(calls, 1, 20);
        return troupe.priceOf(existingPlan(calls));
    }

    public boolean isPlanned(int calls, int hand)
            throws IllegalArgumentException, IndexOutOfBoundsException, NoSuchElementException {
        checkRange(calls, 1, 20);
        existingHand(hand);
        return Troupe.holds(existingPlan(calls), hand);
    }

    // ---- figures

    public long checksum() {
        long sum = 7;
        for (int row = 0; row < house.rows; row++) {
            for (int column = 0; column < house.columns; column++) {
                Seat seat = house.seatOrNull(row, column);
                sum = 31 * sum + (seat == null ? 0 : seat.noise);
            }
        }
        sum = 31 * sum + evening.calls;
        sum = 31 * sum + evening.hisses;
        sum = 31 * sum + purse;
        sum = 31 * sum + chiefsMoney;
        for (int i = 0; i < troupe.hands.size(); i++) {
            sum = 31 * sum + troupe.hands.get(i).money;
        }
        return sum;
    }

    public float joiningShare() throws ArithmeticException {
        int payers = house.countSeated(PAYER);
        if (payers == 0) {
            throw new ArithmeticException("there are no payers");
        }
        return (float) house.countJoined() / (float) payers;
    }

    public double meanNoise() throws ArithmeticException {
        int seats = house.rows * house.columns;
        if (seats == 0) {
            throw new ArithmeticException("there is no house");
        }
        return (double) house.noiseSum() / (double) seats;
    }

    public boolean isSound() {
        return house.isInOrder() && troupe.isInOrder() && purse >= 0;
    }

    // ---- what the calls have in common

    private static void checkRange(int number, int least, int most) {
        if (number < least || number > most) {
            throw new IllegalArgumentException("a number is out of range");
        }
    }

    private static void checkCueKind(char kind) {
        if (kind != 'c' && kind != 'w' && kind != 'l' && kind != 'e') {
            throw new IllegalArgumentException("there is no such kind");
        }
    }

    private void checkHouse() {
        if (house.rows == 0) {
            throw new IllegalStateException("there is no house");
        }
    }

    private Seat existingSeat(int row, int column) {
        Seat seat = house.seatOrNull(row, column);
        if (seat == null) {
            throw new IndexOutOfBoundsException("there is no such seat");
        }
        return seat;
    }

    private Hand existingHand(int hand) {
        if (hand < 0 || hand >= troupe.hands.size()) {
            throw new IndexOutOfBoundsException("there is no such hand");
        }
        return troupe.hands.get(hand);
    }

    private Singer existingSinger(int singer) {
        if (singer < 0 || singer >= singers.size()) {
            throw new IndexOutOfBoundsException("there is no such singer");
        }
        return singers.get(singer);
    }

    private int existingPlan(int calls) {
        int plan = troupe.cheapestPlan(STRENGTH_FOR_CALL * calls);
        if (plan == Troupe.NO_PLAN) {
            throw new NoSuchElementException("there is no plan");
        }
        return plan;
    }

    private void beginEvening() {
        evening.begin();
        for (int i = 0; i < singers.size(); i++) {
            singers.get(i).calls = 0;
        }
    }

    private int billFor(Singer singer) {
        if (!evening.hasBegunCueFor(singer)) {
            return 0;
        }
        int bill = singer.night + singer.perCall * singer.calls;
        singer.owed += bill;
        return bill;
    }

    private static final class Hand {
        final char kind;
        final int strength;
        final int rank;
        final int price;
        int money = 0;
        Seat seat = null;

        Hand(char kind, int strength, int rank, int price) {
            this.kind = kind;
            this.strength = strength;
            this.rank = rank;
            this.price = price;
        }

        int parts() {
            return rank + 1;
        }

        boolean follows(Cue cue) {
            return kind == ALL_KINDS || kind == cue.kind;
        }
    }

    private static final class Singer {
        final int night;
        final int perCall;
        int calls = 0;
        int owed = 0;

        Singer(int night, int perCall) {
            this.night = night;
            this.perCall = perCall;
        }
    }

    private static final class Cue {
        final Singer singer;
        final char kind;
        final int tick;
        final int force;
        final int ticks;

        Cue(Singer singer, char kind, int tick, int force, int ticks) {
            this.singer = singer;
            this.kind = kind;
            this.tick = tick;
            this.force = force;
            this.ticks = ticks;
        }

        int lastTick() {
            return tick + ticks - 1;
        }

        boolean isOnIn(int now) {
            return tick <= now && now <= lastTick();
        }
    }

    private static final class Seat {
        char who = NOBODY;
        int threshold = 0;
        Hand hand = null;
        int noise = 0;
        int noiseAhead = 0;
        boolean joined = false;
        int joins = 0;
        boolean hissed = false;
        boolean hissedAhead = false;

        char take(char newcomer) {
            char before = who;
            if (hand != null) {
                hand.seat = null;
                hand = null;
            }
            who = newcomer;
            threshold = 0;
            forgetEvening();
            return before;
        }

        void forgetEvening() {
            noise = 0;
            joined = false;
            joins = 0;
            hissed = false;
        }

        void keepTickAhead() {
            noiseAhead = noise;
            hissedAhead = hissed;
        }

        int heardByNeighbours() {
            return hissedAhead ? noiseAhead - HISS_TAKES : noiseAhead;
        }

        int tirednessNow() {
            return joins / JOINS_TO_TIRE;
        }

        void soundAsPayer(int around) {
            joined = around >= JOIN_FACTOR * (threshold + tirednessNow());
            if (joined) {
                joins++;
                noise = Math.max(1, Math.min(MOST_NOISE, around / JOIN_NOISE_PART));
            } else {
                noise = Math.max(0, noiseAhead - 1);
            }
        }

        boolean isInOrder() {
            boolean handFits = hand == null ? who != HAND : who == HAND && hand.seat == this;
            return handFits && noise >= 0 && noise <= MOST_NOISE;
        }
    }

    private static final class House {
        // All seats of the largest house are made once; those outside of the house at hand
        // stay empty and silent, so that sums may go over all of them.
        final Seat[] seats = new Seat[MOST_ROWS * MOST_SEATS_IN_ROW];
        int rows = 0;
        int columns = 0;

        House() {
            for (int i = 0; i < seats.length; i++) {
                seats[i] = new Seat();
            }
        }

        void build(int newRows, int newColumns) {
            for (Seat seat : seats) {
                seat.take(NOBODY);
            }
            rows = newRows;
            columns = newColumns;
        }

        Seat seatOrNull(int row, int column) {
            if (row < 0 || row >= rows || column < 0 || column >= columns) {
                return null;
            }
            int place = row * MOST_SEATS_IN_ROW + column;
            return place < seats.length ? seats[place] : null;
        }

        void forgetEvening() {
            for (Seat seat : seats) {
                seat.forgetEvening();
            }
        }

        void keepTickAhead() {
            for (Seat seat : seats) {
                seat.keepTickAhead();
            }
        }

        int around(int row, int column) {
            int sum = 0;
            for (int r = row - 1; r <= row + 1; r++) {
                for (int c = column - 1; c <= column + 1; c++) {
                    Seat neighbour = r == row && c == column ? null : seatOrNull(r, c);
                    if (neighbour != null) {
                        sum += neighbour.heardByNeighbours();
                    }
                }
            }
            return sum;
        }

        int noiseSum() {
            int sum = 0;
            for (Seat seat : seats) {
                sum += seat.noise;
            }
            return sum;
        }

        int countJoined() {
            int count = 0;
            for (Seat seat : seats) {
                if (seat.joined) {
                    count++;
                }
            }
            return count;
        }

        int countSeated(char who) {
            int count = 0;
            for (Seat seat : seats) {
                if (seat.who == who) {
                    count++;
                }
            }
            return count;
        }

        int countNoisy(char who) {
            int count = 0;
            for (Seat seat : seats) {
                if (seat.who == who && seat.noise > 0) {
                    count++;
                }
            }
            return count;
        }

        boolean isInOrder() {
            for (Seat seat : seats) {
                if (!seat.isInOrder()) {
                    return false;
                }
            }
            return true;
        }
    }

    private static final class Evening {
        final ArrayList<Cue> cues = new ArrayList<Cue>();
        // A level that is set holds for later evenings too: the document takes it back nowhere.
        int level = FIRST_LEVEL;
        int ticks = 0;
        int loudTicks = 0;
        int calls = 0;
        int hisses = 0;
        int suspicions = 0;

        void begin() {
            cues.clear();
            ticks = 0;
            loudTicks = 0;
            calls = 0;
            hisses = 0;
            suspicions = 0;
        }

        boolean handsAreFoundOut() {
            return suspicions >= SUSPICIONS_TO_FIND_OUT;
        }

        void passTick(House house) {
            house.keepTickAhead();
            for (int row = 0; row < house.rows; row++) {
                for (int column = 0; column < house.columns; column++) {
                    soundSeat(house, row, column);
                }
            }
            hearNoise(house.noiseSum());
            judgeCues(house.countNoisy(PAYER), house.countNoisy(HAND));
            ticks++;
        }

        private void soundSeat(House house, int row, int column) {
            Seat seat = house.seatOrNull(row, column);
            if (seat == null) {
                return;
            }
            if (seat.who == PAYER) {
                seat.soundAsPayer(house.around(row, column));
            } else if (seat.who == RIVAL) {
                seat.hissed = house.around(row, column) >= HISS_FROM;
                hisses += seat.hissed ? 1 : 0;
            } else if (seat.hand != null) {
                seat.noise = noiseOf(seat.hand);
            }
        }

        private int noiseOf(Hand hand) {
            if (handsAreFoundOut()) {
                return 0;
            }
            int force = 0;
            for (int i = 0; i < cues.size(); i++) {
                Cue cue = cues.get(i);
                if (cue.isOnIn(ticks) && hand.follows(cue)) {
                    force = Math.max(force, cue.force);
                }
            }
            return Math.min(MOST_NOISE, hand.strength * force);
        }

        private void hearNoise(int sum) {
            if (sum < level) {
                loudTicks = 0;
                return;
            }
            loudTicks++;
            if (loudTicks < LOUD_TICKS_FOR_CALL) {
                return;
            }
            loudTicks = 0;
            calls++;
            Cue last = lastBegunCue();
            if (last != null) {
                last.singer.calls++;
            }
        }

        private Cue lastBegunCue() {
            Cue last = null;
            for (int i = 0; i < cues.size(); i++) {
                Cue cue = cues.get(i);
                if (cue.tick <= ticks && (last == null || cue.tick >= last.tick)) {
                    last = cue;
                }
            }
            return last;
        }

        private void judgeCues(int noisyPayers, int noisyHands) {
            if (noisyPayers >= noisyHands) {
                return;
            }
            for (int i = 0; i < cues.size(); i++) {
                if (cues.get(i).lastTick() == ticks) {
                    suspicions++;
                }
            }
        }

        boolean hasBegunCueFor(Singer singer) {
            for (int i = 0; i < cues.size(); i++) {
                Cue cue = cues.get(i);
                if (cue.singer == singer && cue.tick < ticks) {
                    return true;
                }
            }
            return false;
        }
    }

    private static final class Troupe {
        // A plan is a set of hands, a bit for each; no plan is empty, as a call wants strength.
        static final int NO_PLAN = 0;

        final ArrayList<Hand> hands = new ArrayList<Hand>();

        static boolean holds(int plan, int hand) {
            return (plan >> hand & 1) != 0;
        }

        int shareOut(int money) {
            int parts = CHIEFS_PARTS;
            for (int i = 0; i < hands.size(); i++) {
                parts += hands.get(i).parts();
            }
            int rest = money;
            for (int i = 0; i < hands.size(); i++) {
                Hand hand = hands.get(i);
                int got = cutShare((long) money * hand.parts(), parts);
                hand.money += got;
                rest -= got;
            }
            return rest;
        }

        private static int cutShare(long money, int parts) {
            return parts == 0 ? 0 : (int) (money / parts);
        }

        int cheapestPlan(int wantedStrength) {
            int best = NO_PLAN;
            int plans = 1 << hands.size();
            for (int plan = 1; plan < plans; plan++) {
                if (strengthOf(plan) >= wantedStrength && (best == NO_PLAN || isBetter(plan, best))) {
                    best = plan;
                }
            }
            return best;
        }

        int priceOf(int plan) {
            int price = 0;
            for (int i = 0; i < hands.size(); i++) {
                if (holds(plan, i)) {
                    price += hands.get(i).price;
                }
            }
            return price;
        }

        private int strengthOf(int plan) {
            int strength = 0;
            for (int i = 0; i < hands.size(); i++) {
                if (holds(plan, i)) {
                    strength += hands.get(i).strength;
                }
            }
            return strength;
        }

        private boolean isBetter(int plan, int other) {
            int price = priceOf(plan);
            int otherPrice = priceOf(other);
            if (price != otherPrice) {
                return price < otherPrice;
            }
            int count = Integer.bitCount(plan);
            int otherCount = Integer.bitCount(other);
            if (count != otherCount) {
                return count < otherCount;
            }
            // Of two sets alike in size, the lowest hand that is in one alone stands
            // at the first place in which their hands differ.
            int differing = plan ^ other;
            return (plan & differing & -differing) != 0;
        }

        boolean isInOrder() {
            for (int i = 0; i < hands.size(); i++) {
                Hand hand = hands.get(i);
                if (hand.seat != null && hand.seat.hand != hand) {
                    return false;
                }
            }
            return true;
        }
    }
}
