import java.util.Random;

/**
 * Texts that nobody would write: whatever comes, a call answers, or throws what the document names for it.
 * The numbers are always the same ones.
 */
public final class EndlessTest {
    private static final String[] WORDS = {"f", "g", "x", "y", "p", "q", "eq", "add", "error", "A", "B", "T", "Int", "Char",
        "Eq", "Ord", "Num", "True", "data", "deriving", "let", "in", "case", "of", "if", "then", "else", "_", "_h", "1", "23",
        "'c'", "->", "::", "=>", "=", "|", ";", "{", "}", "(", ")", "[", "]", ",", ":", "\\", "@", "()", "[]"};
    private static final String[] UNITS = {
        "data T a = A | B {p :: a, q :: T a} deriving (Eq, Ord); f A = 1; f B {p = x, q = y} = add x (f y); g x = x {p = _}",
        "f :: (Eq a, Num b) => a -> b -> Bool; f x y = let {g :: c -> c; g z = z; h = eq (g x)} in h (g x); k = f 1 _h",
        "f 0 = True; f n = g (add n 1); g 0 = False; g n = f (add n 1); (p, q) = (f, \\x -> case x of {[] -> _; y : z -> y})",
        "f x = if less x 1 then [x, _] else let {y = x : []; (u, v) = (y, \\w -> w)} in v u; g = (f 1, f (2 :: Int))",
        "d x = (x, x); e = d (d (d _)); f = let {g = add} in (g 1 2, d g); h y = eq [] (d y : []); k = (\\_ -> 'c') (d e)",
    };

    private static String soup(Random random) {
        StringBuilder s = new StringBuilder();
        for (int i = random.nextInt(40); i >= 0; i--) {
            s.append(WORDS[random.nextInt(WORDS.length)]).append(' ');
        }
        return s.toString();
    }

    /** A text with some of its words lost, doubled or changed. */
    private static String spoilt(Random random) {
        String[] words = UNITS[random.nextInt(UNITS.length)].replaceAll("([(){}\\[\\],;\\\\])", " $1 ").trim().split(" +");
        for (int i = random.nextInt(4); i > 0; i--) {
            int at = random.nextInt(words.length);
            int how = random.nextInt(4);
            words[at] = how == 0 ? "" : how == 1 ? words[at] + " " + words[at]
                : how == 2 ? WORDS[random.nextInt(WORDS.length)] : words[random.nextInt(words.length)];
        }
        return String.join(" ", words);
    }

    private static void allowed(String what, Probe.Call call, String... names) {
        try {
            call.go();
        } catch (RuntimeException e) {
            String name = e.getClass().getSimpleName();
            boolean right = false;
            for (String one : names) {
                right = right || one.equals(name);
            }
            if (!right) {
                Probe.due(what, name, "another answer");
            }
        }
    }

    private static void askAll(TypeInference x, String text) {
        String outside = "IndexOutOfBoundsException";
        String state = "IllegalStateException";
        for (int i = -1; i <= x.told(1); i++) {
            int k = i;
            allowed("token " + text, () -> x.token(k), outside);
            allowed("type " + text, () -> x.type(k), outside, state);
            allowed("group " + text, () -> x.group(k), outside, state);
            allowed("covers " + text, () -> x.covers(k), outside, state, "IllegalArgumentException");
        }
        for (int i = -1; i <= x.told(4); i++) {
            int k = i;
            allowed("hole " + text, () -> x.hole(k), outside);
            allowed("holeType " + text, () -> x.holeType(k), outside, state);
            allowed("fits " + text, () -> x.fits(k), outside, state);
            allowed("fit " + text, () -> x.fit(k, k), outside, state);
        }
    }

    /** What was written is a given type that the scheme covers, and all answers come again. */
    private static void covered(TypeInference x, String text) {
        for (int i = 0; i < x.told(1); i++) {
            String written = Probe.scheme(x, i);
            if (written.length() < 1000) {
                Probe.tape(x, written);
                Probe.due("covers " + written + " of " + text, x.covers(i), true);
                x.cut(written.length());
            }
        }
    }

    public static void main(String[] args) {
        Random random = new Random(4711);
        int typed = 0;
        TypeInference x = null;
        for (int i = 0; i < 20000; i++) {
            if (i % 10 == 0) {
                x = new TypeInference();
            }
            String text = i % 4 == 0 ? soup(random) : spoilt(random);
            if (text.length() > 1400) {
                continue;
            }
            x.setting(0, i % 3 != 0);
            x.setting(1, i % 5 != 0);
            String first = Probe.schemes(x, text);
            Probe.tape(x, "Eq a => a -> T a");
            askAll(x, text);
            x.cut(16);
            if (x.fault() == 0) {
                typed++;
                covered(x, text);
            }
            String outcome = Probe.schemes(new TypeInference(), "");
            Probe.due("a unit without decls", outcome, "");
            if (x.fault() != 1) {
                int again = x.infer();
                Probe.due("infer again " + text, again == 0, x.fault() == 0);
                Probe.due("the same " + text, x.fault() == 0 || first.equals(x.fault() + "@" + (again - 1)), true);
            }
        }
        Probe.due("units that were typed", typed > 1000, true);
        Probe.end();
    }
}
