import java.lang.reflect.InvocationTargetException;
import java.lang.reflect.Method;
import java.lang.reflect.Modifier;
import java.util.Map;
import java.util.TreeMap;

/** Long runs of calls, made by counting alone, each compared with the plain model. */
public final class RandomRunsTest {

    private static final int RUNS = 1500;
    private static final int CALLS = 512;
    private static final String[] NAMES = {
        "word", "write", "slip", "type", "reading", "unlikely", "likeliest", "restored", "sheetIs",
        "meet", "give", "hide", "burn", "whoHad", "knows", "lend", "file", "informer", "strong",
        "arrest", "search", "amnesty", "isKnown", "isKnownAnew", "risk", "pass", "life", "open",
        "line",
    };
    /** How often each call is made, of so many. */
    private static final int[] SHARES = {
        2, 8, 6, 10, 8, 6, 5, 6, 6,
        5, 10, 5, 1, 5, 2, 7, 5, 1, 3,
        4, 3, 1, 2, 2, 4, 4, 2, 1,
        6,
    };
    private static final int[] EXTREMES = {Integer.MIN_VALUE, Integer.MAX_VALUE, -1, 1 << 16};

    private static final int WRITE = 1;
    private static final int SLIP = 2;
    private static final int TYPE = 3;
    private static final int MEET = 9;
    private static final int GIVE = 10;
    private static final int HIDE = 11;
    private static final int LEND = 15;
    private static final int FILE = 16;
    private static final int PASS = 25;
    /** What a run begins with, so that there is something to find for the police. */
    private static final int[] START = {WRITE, SLIP, TYPE, MEET, MEET, GIVE, HIDE, LEND, LEND, FILE};
    private static final Map<String, Method> FACE = methodsOf(ThinSheets.class);
    private static final Map<String, Method> DUE = methodsOf(PlainModel.class);

    private static long seed;
    private static final Map<String, Integer> outcomes = new TreeMap<>();

    private RandomRunsTest() {
    }

    public static void main(String[] args) {
        for (int run = 0; run < RUNS; run++) {
            seed = 1000003L * run + 17;
            compareRun(run);
        }
        checkCover();
        Check.end();
    }

    private static int below(int end) {
        seed = seed * 6364136223846793005L + 1442695040888963407L;
        return (int) ((seed >>> 33) % end);
    }

    /** From low to high, now and then one beyond, or far beyond. */
    private static int about(int low, int high) {
        int chance = below(120);
        if (chance == 0) {
            return low - 1;
        }
        if (chance == 1) {
            return high + 1;
        }
        if (chance == 2) {
            return EXTREMES[below(EXTREMES.length)];
        }
        return low + below(high - low + 1);
    }

    private static int pick() {
        int all = 0;
        for (int share : SHARES) {
            all += share;
        }
        int left = below(all);
        int call = 0;
        while (left >= SHARES[call]) {
            left -= SHARES[call];
            call++;
        }
        return call;
    }

    private static void compareRun(int run) {
        ThinSheets x = new ThinSheets();
        PlainModel model = new PlainModel();
        // Few people and machines in some runs, so that more calls are allowed.
        int people = 2 + below(9);
        boolean longTime = run % 10 == 0;
        for (int done = 0; done < CALLS; done++) {
            int call = longTime && below(3) == 0 ? PASS : pick();
            if (done < 40) {
                call = START[below(START.length)];
            }
            int[] a = arguments(call, people, model.sheetCount());
            String want = ask(model, DUE.get(NAMES[call]), a);
            String got = ask(x, FACE.get(NAMES[call]), a);
            count(call, want);
            if (!want.equals(got)) {
                Check.report("run " + run + ", call " + done + ": " + NAMES[call] + "(" + a[0] + ", "
                        + a[1] + ", " + a[2] + ") answered " + got + ", due is " + want);
                return;
            }
        }
    }

    private static int[] arguments(int call, int people, int sheets) {
        int there = sheets == 0 ? 0 : sheets - 1;
        int person = about(0, people - 1);
        int other = about(0, people - 1);
        int sheet = about(0, there);
        int text = about(0, 2);
        int place = about(0, 11);
        int machine = about(0, 3);
        int word = below(2) == 0 ? about(0, 11) : about(0, 99);
        switch (NAMES[call]) {
            case "word":
                return new int[] {text, place, word};
            case "write":
                return new int[] {text, person, machine};
            case "slip":
                return new int[] {place, about(0, 2), below(3) == 0 ? 0 : word};
            case "type":
                return new int[] {sheet, machine, about(1, 6)};
            case "reading":
                return new int[] {sheet, place, 0};
            case "unlikely":
                return new int[] {sheet, about(0, there), 0};
            case "restored":
                return new int[] {text, place, 0};
            case "sheetIs":
                return new int[] {sheet, about(0, 7), 0};
            case "give":
                return new int[] {sheet, person, 0};
            case "hide":
                return new int[] {sheet, about(0, 9), 0};
            case "whoHad":
                return new int[] {text, place, below(2) == 0 ? about(-2, 0) : word};
            case "lend":
                return new int[] {machine, person, 0};
            case "search":
                return new int[] {person, about(0, 9), 0};
            case "strong":
                return new int[] {person, about(0, 9), 0};
            case "risk":
                return new int[] {person, below(2) == 0 ? about(0, 30) : about(0, 9), 0};
            case "pass":
                return new int[] {below(3) == 0 ? about(1, 30) : about(1, 3), 0, 0};
            case "life":
                return new int[] {person, below(2), below(2)};
            case "line":
                return new int[] {about(0, 15), about(0, 3), 0};
            case "likeliest":
            case "burn":
                return new int[] {sheet, 0, 0};
            case "file":
                return new int[] {machine, 0, 0};
            default:
                return new int[] {person, other, 0};
        }
    }

    private static Map<String, Method> methodsOf(Class<?> face) {
        Map<String, Method> methods = new TreeMap<>();
        for (Method method : face.getDeclaredMethods()) {
            if (!Modifier.isPrivate(method.getModifiers())) {
                methods.put(method.getName(), method);
            }
        }
        return methods;
    }

    /** The answer of a call, null of one without, or the name of what was thrown. */
    private static String ask(Object x, Method method, int[] numbers) {
        Class<?>[] types = method.getParameterTypes();
        Object[] arguments = new Object[types.length];
        for (int k = 0; k < types.length; k++) {
            if (types[k] == boolean.class) {
                arguments[k] = numbers[k] == 1;
            } else {
                arguments[k] = numbers[k];
            }
        }
        try {
            return String.valueOf(method.invoke(x, arguments));
        } catch (InvocationTargetException thrown) {
            return thrown.getCause().getClass().getSimpleName();
        } catch (IllegalAccessException closed) {
            return "closed";
        }
    }

    private static void count(int call, String outcome) {
        String kind = outcome.endsWith("Exception") ? outcome : "answer";
        outcomes.merge(NAMES[call] + " " + kind, 1, Integer::sum);
    }

    /** The runs are worth something only if they come to every outcome that the document has. */
    private static void checkCover() {
        for (Method method : FACE.values()) {
            need(method.getName() + " answer");
            for (Class<?> thrown : method.getExceptionTypes()) {
                need(method.getName() + " " + thrown.getSimpleName());
            }
        }
    }

    private static void need(String outcome) {
        if (outcomes.getOrDefault(outcome, 0) < 20) {
            Check.report("the runs came too seldom to: " + outcome);
        }
    }
}
