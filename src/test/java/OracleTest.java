import java.lang.reflect.Method;
import java.util.ArrayList;
import java.util.Arrays;
import java.util.List;

/** Random runs of calls, with sound and faulty texts and with wrong arguments, against PlainHouse. */
public final class OracleTest {
    private static final int RUNS = 2500;
    private static final String[] QUESTIONS = {
        "judge", "best", "allowed", "fails", "front", "core", "nearest", "settled", "having"
    };
    private static final String[] CHANGES = {"turn", "pin", "plan"};
    private static final String[] LOOKS = {"place", "told", "name", "value", "score", "pair", "cut"};
    private final Checks checks = new Checks();
    private final Texts texts = new Texts(20261116);
    private final Method[] methods = SolverHouse.class.getDeclaredMethods();
    private SolverHouse house;
    private PlainHouse plain;
    private final List<String> story = new ArrayList<>();
    private int calls;
    private int sound;
    private final int[] faults = new int[7];

    public static void main(String[] args) throws ReflectiveOperationException {
        new OracleTest().run(args.length > 1 ? Integer.parseInt(args[1]) : RUNS);
    }

    private void run(int runs) throws ReflectiveOperationException {
        for (int n = 0; n < runs; n++) {
            house = new SolverHouse();
            plain = new PlainHouse();
            story.clear();
            calls = 0;
            // The last of them may read a text, and an object is used for 512 calls.
            int most = 60 + texts.pick(270);
            while (calls < most) {
                some();
            }
        }
        checks.due("sound texts are enough", sound > runs ? 1 : 0, 1);
        for (int f = 1; f <= 6; f++) {
            checks.due("fault " + f + " was met", faults[f] > 5 ? 1 : 0, 1);
        }
        checks.end();
    }

    /** Both houses are called, and must answer the same. */
    private int both(String name, Object... arguments) throws ReflectiveOperationException {
        for (Method method : methods) {
            if (method.getName().equals(name)) {
                Method other = PlainHouse.class.getMethod(name, method.getParameterTypes());
                int want = (Integer) other.invoke(plain, arguments);
                int got = (Integer) method.invoke(house, arguments);
                String call = name + Arrays.toString(arguments);
                checks.due(got == want ? call : story + " " + call, got, want);
                story.add(call + " " + want);
                calls++;
                return want;
            }
        }
        throw new NoSuchMethodException(name);
    }

    private String oneOf(String[] names) {
        return names[texts.pick(names.length)];
    }

    private void some() throws ReflectiveOperationException {
        int which = calls == 0 ? 0 : texts.pick(100);
        if (which < 4) {
            read();
        } else if (which < 5) {
            bytes();
        } else if (which < 50) {
            ask(oneOf(QUESTIONS));
        } else if (which < 75) {
            ask(oneOf(CHANGES));
        } else {
            ask(oneOf(LOOKS));
        }
    }

    /** Any bytes come onto the tape, some go, and what is there is perhaps read. */
    private void bytes() throws ReflectiveOperationException {
        for (int n = 1 + texts.pick(3); n > 0; n--) {
            both("feed", wild(), wild(), wild(), wild(), wild());
        }
        both("cut", texts.chance(50) ? 20 : wild());
        if (texts.chance(50)) {
            read();
        }
    }

    private void read() throws ReflectiveOperationException {
        if (texts.chance(70)) {
            both("cut", both("cut", 0));
        }
        feed(texts.chance(15) ? texts.crowdedText() : texts.text());
        int answer = both("problem", problem());
        if (answer == -1) {
            both("place");
            answer = both("problem", texts.pick(4));
        }
        sound += answer > 0 ? 1 : 0;
        faults[plain.latestFault] += answer < -3 ? 1 : 0;
        both("place");
    }

    private void feed(String text) throws ReflectiveOperationException {
        for (int at = 0; at < text.length(); at += 20) {
            Object[] five = {0, 0, 0, 0, 0};
            for (int i = 0; i < 20; i++) {
                int b = at + i < text.length() ? text.charAt(at + i) & 255 : ' ';
                five[i / 4] = (Integer) five[i / 4] << 8 | b;
            }
            both("feed", five);
        }
        both("cut", (20 - text.length() % 20) % 20);
    }

    private int wild() {
        switch (texts.pick(8)) {
            case 0: return Integer.MIN_VALUE + texts.pick(3);
            case 1: return Integer.MAX_VALUE - texts.pick(3);
            case 2: return 1 << texts.pick(32);
            case 3: return texts.pick(2000) - 1000;
            default: return texts.pick(18) - 2;
        }
    }

    private int problem() {
        return texts.chance(75) ? 0 : texts.chance(90) ? texts.pick(4) : wild();
    }

    private int below(int n) {
        return texts.chance(90) ? texts.pick(Math.max(1, n)) : texts.chance(50) ? texts.pick(n + 3) - 1 : wild();
    }

    private int variable(int p) {
        PlainHouse.Kept q = plain.kept(p);
        return below(q == null ? 3 : q.plan.length);
    }

    private int item(int p) {
        PlainHouse.Kept q = plain.kept(p);
        return below(q == null ? 3 : q.oracle.items.size());
    }

    private int valueOf(int p, int k) {
        PlainHouse.Kept q = plain.kept(p);
        if (q == null || !q.hasVariable(k) || texts.chance(5)) {
            return wild();
        }
        int[] range = q.oracle.ranges.get(k);
        return range[0] - 1 + texts.pick(range[1] - range[0] + 3);
    }

    private void ask(String name) throws ReflectiveOperationException {
        int p = problem();
        int k = variable(p);
        switch (name) {
            case "place": both(name); break;
            case "cut": both(name, texts.chance(80) ? 0 : wild()); break;
            case "score": both(name, below(5)); break;
            case "pair": both(name, below(4), below(2)); break;
            case "front": pairs(both(name, p, below(3), below(3))); break;
            case "told": told(p, below(12)); break;
            case "name": named(p, below(3)); break;
            case "turn": both(name, p, item(p), texts.chance(35)); break;
            case "value": both(name, p, k); break;
            case "pin": both(name, p, k, valueOf(p, k)); break;
            case "plan": both(name, p, k, valueOf(p, k)); break;
            case "having": both(name, p, k, valueOf(p, k)); break;
            case "judge": both(name, p); scores(); break;
            case "best": both(name, p); scores(); values(p); break;
            case "nearest": both(name, p); values(p); break;
            default: both(name, p); break;
        }
    }

    private void told(int p, int what) throws ReflectiveOperationException {
        both("told", p, what, what < 8 ? variable(p) : item(p));
    }

    private void named(int p, int sort) throws ReflectiveOperationException {
        both("name", p, sort, sort == 0 ? variable(p) : sort == 1 ? below(2) : item(p), below(4));
    }

    private void scores() throws ReflectiveOperationException {
        for (int what = 0; what < 5; what++) {
            both("score", what);
        }
    }

    private void pairs(int count) throws ReflectiveOperationException {
        for (int i = 0; i <= Math.min(count, 6); i++) {
            both("pair", i, 0);
            both("pair", i, 1);
        }
    }

    private void values(int p) throws ReflectiveOperationException {
        PlainHouse.Kept q = plain.kept(p);
        int count = q == null ? 0 : q.plan.length;
        for (int k = 0; k < count; k++) {
            both("value", p, k);
        }
    }
}
