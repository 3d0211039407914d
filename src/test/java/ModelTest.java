import java.lang.reflect.InvocationTargetException;
import java.lang.reflect.Method;
import java.lang.reflect.Modifier;
import java.util.ArrayList;
import java.util.Arrays;
import java.util.Comparator;
import java.util.HashMap;
import java.util.List;
import java.util.Map;

/** All promises: long runs of calls, of which each must answer as PlainClaque does, and leave the like behind. */
public final class ModelTest {
    private static final int RUNS = 240;
    private static final int CALLS = 512;
    // How often a call is drawn; what is not named here is drawn once in a while.
    private static final String OFTEN = "run run run run addCue addCue addCue addCue seatPayer seatPayer seatPayer "
        + "seatHand seatHand seatHand seatRival endEvening pay pay share";

    private static final Map<Method, Method> PLAIN = new HashMap<>();

    private static long state;

    public static void main(String[] args) throws ReflectiveOperationException {
        List<Method> calls = faceInOrder();
        for (int run = 0; run < RUNS; run++) {
            state = 7919L * run + 1;
            compare(run, calls);
        }
        Check.end("ModelTest");
    }

    private static int draw(int bound) {
        state = state * 6364136223846793005L + 1442695040888963407L;
        return (int) ((state >>> 33) % bound);
    }

    private static List<Method> faceInOrder() throws NoSuchMethodException {
        List<Method> face = new ArrayList<>();
        for (Method method : ClaqueRow.class.getDeclaredMethods()) {
            if (Modifier.isPublic(method.getModifiers())) {
                face.add(method);
                PLAIN.put(method, PlainClaque.class.getDeclaredMethod(method.getName(), method.getParameterTypes()));
            }
        }
        face.sort(Comparator.comparing(Method::getName));
        return face;
    }

    private static void compare(int run, List<Method> face) throws ReflectiveOperationException {
        ClaqueRow x = new ClaqueRow();
        PlainClaque plain = new PlainClaque();
        List<Method> drawn = new ArrayList<>(face);
        drawn.removeIf(method -> method.getName().equals("newHouse"));
        for (String name : OFTEN.split(" ")) {
            face.stream().filter(method -> method.getName().equals(name)).forEach(drawn::add);
        }
        Method newHouse = face.stream().filter(method -> method.getName().equals("newHouse")).findFirst().get();
        for (int call = 0; call < CALLS; call++) {
            boolean house = call == run % 3 * 5 || draw(200) == 0;
            Method method = house ? newHouse : drawn.get(draw(drawn.size()));
            Object[] arguments = arguments(method, run);
            Object due = answer(plain, method, arguments);
            Object got = answer(x, method, arguments);
            String what = "run " + run + ", call " + call + ": " + method.getName() + Arrays.toString(arguments);
            Check.due(what, due, () -> got);
            if (due instanceof Class || call % 16 == 0) {
                Object after = observed(x, face);
                Check.due(what + " leaves", observed(plain, face), () -> after);
            }
        }
    }

    private static Object answer(Object claque, Method method, Object... arguments)
            throws ReflectiveOperationException {
        try {
            return (claque instanceof ClaqueRow ? method : PLAIN.get(method)).invoke(claque, arguments);
        } catch (InvocationTargetException e) {
            return claque instanceof ClaqueRow ? Check.thrown(e.getCause()) : e.getCause().getClass();
        }
    }

    private static String observed(Object claque, List<Method> face) throws ReflectiveOperationException {
        StringBuilder seen = new StringBuilder();
        for (Method method : face) {
            String name = method.getName();
            boolean asks = !name.equals("share") && !name.equals("endEvening");
            if (method.getParameterCount() == 0 && asks) {
                seen.append(name).append('=').append(answer(claque, method)).append(' ');
            }
            if (List.of("owed", "callsOf", "moneyOf", "isSeated").contains(name)) {
                Object answer = null;
                for (int i = 0; i < 12 && !(answer instanceof Class); i++) {
                    answer = answer(claque, method, i);
                    seen.append(answer).append(' ');
                }
            }
        }
        for (int row = 0; row < 8; row++) {
            observeRow(claque, row, seen);
        }
        return seen.toString();
    }

    private static void observeRow(Object claque, int row, StringBuilder seen) throws ReflectiveOperationException {
        Object who = null;
        for (int seat = 0; seat < 10 && !(who instanceof Class); seat++) {
            who = answer(claque, call("seatAt"), row, seat);
            seen.append(who).append(' ');
            if (!(who instanceof Class)) {
                seen.append(answer(claque, call("noiseAt"), row, seat)).append(' ');
            }
            if (who.equals('p')) {
                seen.append(answer(claque, call("tiredness"), row, seat)).append(' ');
            }
        }
    }

    private static Method call(String name) throws NoSuchMethodException {
        return ClaqueRow.class.getDeclaredMethod(name, int.class, int.class);
    }

    private static Object[] arguments(Method method, int run) {
        Class<?>[] types = method.getParameterTypes();
        Object[] arguments = new Object[types.length];
        boolean wild = draw(12) == 0;
        for (int i = 0; i < types.length; i++) {
            if (types[i] == char.class) {
                arguments[i] = draw(25) == 0 ? (char) draw(65536) : "cwlea".charAt(draw(5));
            } else {
                arguments[i] = wild && draw(2) == 0 ? wildNumber() : number(method.getName(), i, run);
            }
        }
        return arguments;
    }

    private static int wildNumber() {
        int[] wild = {-1, 0, 1, 4, 8, 9, 10, 11, 12, 20, 21, 31, 99, 100, 101, 299, 300, 999, 1000, 99999, 100000,
            65536, Integer.MIN_VALUE, Integer.MAX_VALUE};
        return wild[draw(wild.length)];
    }

    private static int number(String name, int place, int run) {
        int rows = run % 8 + 1;
        int seats = run % 10 + 1;
        switch (name + place) {
            case "newHouse0":
                return rows;
            case "newHouse1":
                return seats;
            case "seatPayer2":
                return 1 + draw(4);
            case "seatHand0": case "isSeated0": case "moneyOf0": case "isPlanned1":
                return draw(12);
            case "seatHand1":
                return draw(rows);
            case "seatHand2":
                return draw(seats);
            case "addHand1":
                return 1 + draw(9);
            case "addHand2":
                return draw(4);
            case "addHand3":
                return run % 2 == 0 ? draw(100) : draw(4);
            case "addSinger0":
                return draw(1000);
            case "addSinger1":
                return draw(100);
            case "addCue0": case "callsOf0": case "owed0": case "pay0":
                return draw(draw(4) == 0 ? 6 : 2);
            case "addCue2":
                return draw(draw(6) == 0 ? 300 : 60);
            case "addCue3":
                return 1 + draw(3);
            case "addCue4":
                return 1 + draw(30);
            case "setLevel0":
                return 1 + draw(run % 4 == 0 ? 999 : 40);
            case "run0":
                return 1 + draw(draw(10) == 0 ? 100 : 9);
            case "pay1":
                return 1 + draw(600);
            case "planCost0": case "isPlanned0":
                return 1 + draw(20);
            default:
                return place == 0 ? draw(rows) : draw(seats);
        }
    }
}
