import java.util.ArrayList;
import java.util.Comparator;
import java.util.HashMap;
import java.util.List;
import java.util.Map;
import java.util.NoSuchElementException;
import java.util.TreeSet;
import java.util.function.Supplier;

/** The document once more, written as plainly as it reads and without a thought of speed; ModelTest compares. */
final class PlainClaque {
    private record Spot(int row, int seat) {
    }

    private static final class Person {
        final char who;
        final int threshold;
        final int hand;
        int noise;
        boolean joined;
        boolean hissed;
        int timesJoined;

        Person(char who, int threshold, int hand) {
            this.who = who;
            this.threshold = threshold;
            this.hand = hand;
        }

        Person anew() {
            return new Person(who, threshold, hand);
        }
    }

    private record HandTerms(char kind, int strength, int rank, int price) {
    }

    private record SingerTerms(int night, int perCall) {
    }

    private record CueTerms(int number, int singer, char kind, int from, int force, int ticks) {
        int to() {
            return from + ticks;
        }
    }

    private Person[][] people = new Person[0][0];
    private final List<HandTerms> hands = new ArrayList<>();
    private final List<SingerTerms> singers = new ArrayList<>();
    private List<CueTerms> cues = new ArrayList<>();
    private final Map<Integer, TreeSet<Integer>> plans = new HashMap<>();
    private final int[] gotByHand = new int[12];
    private final int[] debt = new int[6];
    private List<Integer> callers = new ArrayList<>();
    private int level = 40;
    private int now;
    private int loudInARow;
    private int hissCount;
    private int suspicionCount;
    private int purseMoney;
    private int chiefMoney;

    private static void need(boolean holds, Supplier<RuntimeException> otherwise) {
        if (!holds) {
            throw otherwise.get();
        }
    }

    private static void inRange(int number, int from, int to) {
        need(from <= number && number <= to, IllegalArgumentException::new);
    }

    private boolean isSeat(int row, int seat) {
        return row >= 0 && row < people.length && seat >= 0 && seat < people[0].length;
    }

    private void needSeat(int row, int seat) {
        need(isSeat(row, seat), IndexOutOfBoundsException::new);
    }

    private static void needNumber(int number, List<?> of) {
        need(number >= 0 && number < of.size(), IndexOutOfBoundsException::new);
    }

    private char put(int row, int seat, Person person) {
        char before = people[row][seat] == null ? '.' : people[row][seat].who;
        people[row][seat] = person;
        return before;
    }

    private Spot spotOf(int hand) {
        for (int row = 0; row < people.length; row++) {
            for (int seat = 0; seat < people[row].length; seat++) {
                if (people[row][seat] != null && people[row][seat].hand == hand) {
                    return new Spot(row, seat);
                }
            }
        }
        return null;
    }

    private List<Person> all(char who) {
        List<Person> found = new ArrayList<>();
        for (Person[] row : people) {
            for (Person person : row) {
                if (person != null && person.who == who) {
                    found.add(person);
                }
            }
        }
        return found;
    }

    private void freshEvening() {
        cues = new ArrayList<>();
        callers = new ArrayList<>();
        now = 0;
        loudInARow = 0;
        hissCount = 0;
        suspicionCount = 0;
    }

    public int newHouse(int rows, int seats) {
        inRange(rows, 1, 8);
        inRange(seats, 1, 10);
        people = new Person[rows][seats];
        freshEvening();
        return rows * seats;
    }

    public char seatPayer(int row, int seat, int threshold) {
        needSeat(row, seat);
        inRange(threshold, 1, 9);
        return put(row, seat, new Person('p', threshold, -1));
    }

    public char seatRival(int row, int seat) {
        needSeat(row, seat);
        return put(row, seat, new Person('r', 0, -1));
    }

    public char seatHand(int hand, int row, int seat) {
        needNumber(hand, hands);
        needSeat(row, seat);
        Spot spot = spotOf(hand);
        need(!new Spot(row, seat).equals(spot), UnsupportedOperationException::new);
        if (spot != null) {
            people[spot.row][spot.seat] = null;
        }
        return put(row, seat, new Person('h', 0, hand));
    }

    public char clearSeat(int row, int seat) {
        needSeat(row, seat);
        return put(row, seat, null);
    }

    public char seatAt(int row, int seat) {
        needSeat(row, seat);
        return people[row][seat] == null ? '.' : people[row][seat].who;
    }

    public int addHand(char kind, int strength, int rank, int price) {
        need("cwlea".indexOf(kind) >= 0, IllegalArgumentException::new);
        inRange(strength, 1, 9);
        inRange(rank, 0, 3);
        inRange(price, 0, 99);
        need(hands.size() < 12, IllegalStateException::new);
        hands.add(new HandTerms(kind, strength, rank, price));
        return hands.size() - 1;
    }

    public boolean isSeated(int hand) {
        needNumber(hand, hands);
        return spotOf(hand) != null;
    }

    public int addSinger(int night, int perCall) {
        inRange(night, 0, 999);
        inRange(perCall, 0, 99);
        need(singers.size() < 6, IllegalStateException::new);
        singers.add(new SingerTerms(night, perCall));
        return singers.size() - 1;
    }

    public int addCue(int singer, char kind, int tick, int force, int ticks) {
        needNumber(singer, singers);
        need("cwle".indexOf(kind) >= 0, IllegalArgumentException::new);
        inRange(tick, 0, 299);
        inRange(force, 1, 3);
        inRange(ticks, 1, 30);
        need(tick >= now, UnsupportedOperationException::new);
        need(cues.size() < 12, IllegalStateException::new);
        cues.add(new CueTerms(cues.size(), singer, kind, tick, force, ticks));
        return cues.size() - 1;
    }

    public int setLevel(int newLevel) {
        inRange(newLevel, 1, 999);
        int before = level;
        level = newLevel;
        return before;
    }

    public int run(int ticks) {
        inRange(ticks, 1, 100);
        need(people.length > 0, IllegalStateException::new);
        for (int i = 0; i < ticks; i++) {
            tick();
            now++;
        }
        return now;
    }

    private void tick() {
        Person[][] next = new Person[people.length][people[0].length];
        int hissed = 0;
        for (int row = 0; row < people.length; row++) {
            for (int seat = 0; seat < people[row].length; seat++) {
                if (people[row][seat] != null) {
                    next[row][seat] = afterTick(row, seat);
                    hissed += next[row][seat].hissed ? 1 : 0;
                }
            }
        }
        people = next;
        hissCount += hissed;
        loudInARow = noise() >= level ? loudInARow + 1 : 0;
        if (loudInARow == 5) {
            loudInARow = 0;
            callers.add(cues.stream().filter(cue -> cue.from <= now)
                .max(Comparator.comparingInt(CueTerms::from).thenComparingInt(CueTerms::number))
                .map(CueTerms::singer).orElse(-1));
        }
        long payers = all('p').stream().filter(person -> person.noise > 0).count();
        long noisyHands = all('h').stream().filter(person -> person.noise > 0).count();
        long over = cues.stream().filter(cue -> cue.to() == now + 1).count();
        suspicionCount += payers < noisyHands ? (int) over : 0;
    }

    private Person afterTick(int row, int seat) {
        Person before = people[row][seat];
        Person after = before.anew();
        after.timesJoined = before.timesJoined;
        int around = around(row, seat);
        if (before.who == 'p') {
            after.joined = around >= 3 * (before.threshold + before.timesJoined / 10);
            after.timesJoined += after.joined ? 1 : 0;
            int joinNoise = around / 4 < 1 ? 1 : around / 4 > 9 ? 9 : around / 4;
            int fadeNoise = before.noise == 0 ? 0 : before.noise - 1;
            after.noise = after.joined ? joinNoise : fadeNoise;
        } else if (before.who == 'r') {
            after.hissed = around >= 12;
        } else if (suspicionCount < 3) {
            HandTerms hand = hands.get(before.hand);
            int loudest = cues.stream().filter(cue -> cue.from <= now && now < cue.to())
                .filter(cue -> hand.kind == 'a' || hand.kind == cue.kind)
                .mapToInt(cue -> cue.force * hand.strength).max().orElse(0);
            after.noise = loudest > 9 ? 9 : loudest;
        }
        return after;
    }

    private int around(int row, int seat) {
        int sum = 0;
        for (int other = 0; other < people.length * people[0].length; other++) {
            int r = other / people[0].length;
            int s = other % people[0].length;
            boolean near = Math.abs(r - row) <= 1 && Math.abs(s - seat) <= 1 && (r != row || s != seat);
            if (near && people[r][s] != null) {
                sum += people[r][s].noise;
                sum -= people[r][s].hissed ? 4 : 0;
            }
        }
        return sum;
    }

    public int noiseAt(int row, int seat) {
        needSeat(row, seat);
        return people[row][seat] == null ? 0 : people[row][seat].noise;
    }

    public int noise() {
        int sum = 0;
        for (int row = 0; row < people.length; row++) {
            for (int seat = 0; seat < people[row].length; seat++) {
                sum += noiseAt(row, seat);
            }
        }
        return sum;
    }

    public int joining() {
        return (int) all('p').stream().filter(person -> person.joined).count();
    }

    public int hisses() {
        return hissCount;
    }

    public int tiredness(int row, int seat) {
        needSeat(row, seat);
        need(seatAt(row, seat) == 'p', UnsupportedOperationException::new);
        return people[row][seat].timesJoined / 10;
    }

    public int callsOf(int singer) {
        needNumber(singer, singers);
        return (int) callers.stream().filter(caller -> caller == singer).count();
    }

    public int calls() {
        return callers.size();
    }

    public int suspicions() {
        return suspicionCount;
    }

    public boolean areFoundOut() {
        return suspicionCount >= 3;
    }

    public int endEvening() {
        need(people.length > 0, IllegalStateException::new);
        int sum = 0;
        for (int singer = 0; singer < singers.size(); singer++) {
            int number = singer;
            if (cues.stream().anyMatch(cue -> cue.singer == number && cue.from < now)) {
                int bill = singers.get(singer).night + singers.get(singer).perCall * callsOf(singer);
                debt[singer] += bill;
                sum += bill;
            }
        }
        for (Person[] row : people) {
            for (int seat = 0; seat < row.length; seat++) {
                row[seat] = row[seat] == null ? null : row[seat].anew();
            }
        }
        freshEvening();
        return sum;
    }

    public int pay(int singer, int money) {
        needNumber(singer, singers);
        inRange(money, 1, 99999);
        need(debt[singer] > 0, UnsupportedOperationException::new);
        int paid = money < debt[singer] ? money : debt[singer];
        debt[singer] -= paid;
        purseMoney += paid;
        return debt[singer];
    }

    public int owed(int singer) {
        needNumber(singer, singers);
        return debt[singer];
    }

    public int purse() {
        return purseMoney;
    }

    public int share() {
        need(purseMoney > 0, UnsupportedOperationException::new);
        int parts = 5 + hands.stream().mapToInt(hand -> hand.rank + 1).sum();
        int kept = purseMoney;
        for (int hand = 0; hand < hands.size(); hand++) {
            int got = purseMoney * (hands.get(hand).rank + 1) / parts;
            gotByHand[hand] += got;
            kept -= got;
        }
        purseMoney = 0;
        chiefMoney += kept;
        return kept;
    }

    public int moneyOf(int hand) {
        needNumber(hand, hands);
        return gotByHand[hand];
    }

    public int chiefs() {
        return chiefMoney;
    }

    private int price(TreeSet<Integer> plan) {
        return plan.stream().mapToInt(hand -> hands.get(hand).price).sum();
    }

    private TreeSet<Integer> bestPlan(int calls) {
        // Hands never change, so a plan found once stands until one is added.
        int key = 100 * hands.size() + calls;
        if (!plans.containsKey(key)) {
            plans.put(key, searchPlan(calls));
        }
        TreeSet<Integer> best = plans.get(key);
        need(best != null, NoSuchElementException::new);
        return best;
    }

    private TreeSet<Integer> searchPlan(int calls) {
        TreeSet<Integer> best = null;
        for (int bits = 0; bits < 1 << hands.size(); bits++) {
            TreeSet<Integer> plan = new TreeSet<>();
            for (int hand = 0; hand < hands.size(); hand++) {
                if ((bits & 1 << hand) != 0) {
                    plan.add(hand);
                }
            }
            int strength = plan.stream().mapToInt(hand -> hands.get(hand).strength).sum();
            if (strength >= 6 * calls && (best == null || beats(plan, best))) {
                best = plan;
            }
        }
        return best;
    }

    private boolean beats(TreeSet<Integer> plan, TreeSet<Integer> best) {
        if (price(plan) != price(best)) {
            return price(plan) < price(best);
        }
        if (plan.size() != best.size()) {
            return plan.size() < best.size();
        }
        List<Integer> one = new ArrayList<>(plan);
        List<Integer> other = new ArrayList<>(best);
        for (int i = 0; i < one.size(); i++) {
            if (!one.get(i).equals(other.get(i))) {
                return one.get(i) < other.get(i);
            }
        }
        return false;
    }

    public int planCost(int calls) {
        inRange(calls, 1, 20);
        return price(bestPlan(calls));
    }

    public boolean isPlanned(int calls, int hand) {
        inRange(calls, 1, 20);
        needNumber(hand, hands);
        return bestPlan(calls).contains(hand);
    }

    public long checksum() {
        List<Integer> numbers = new ArrayList<>();
        for (int row = 0; row < people.length; row++) {
            for (int seat = 0; seat < people[row].length; seat++) {
                numbers.add(noiseAt(row, seat));
            }
        }
        numbers.addAll(List.of(calls(), hissCount, purseMoney, chiefMoney));
        for (int hand = 0; hand < hands.size(); hand++) {
            numbers.add(gotByHand[hand]);
        }
        return numbers.stream().mapToLong(Integer::longValue).reduce(7L, (sum, number) -> 31 * sum + number);
    }

    public float joiningShare() {
        need(!all('p').isEmpty(), ArithmeticException::new);
        return (float) joining() / (float) all('p').size();
    }

    public double meanNoise() {
        need(people.length > 0, ArithmeticException::new);
        return (double) noise() / (double) (people.length * people[0].length);
    }

    public boolean isSound() {
        return true;
    }
}
