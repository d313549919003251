import java.util.ArrayList;
import java.util.Arrays;
import java.util.List;
import java.util.regex.Matcher;
import java.util.regex.Pattern;

/**
 * Answers held against other answers of the same class: a name that fits is put into its hole (promises 14, 15), a
 * scheme is given to its LOW as it was written (10, 11, 17), and a text is written with other blanks and more ( ).
 */
public final class MirrorTest {
    private static final Pattern TOKEN =
        Pattern.compile("'[^']'|[A-Za-z_][A-Za-z0-9_]*|[0-9]+|->|::|=>|[=|;{}()\\[\\],:\\\\]");
    private static final String[] KNOWN = {"False", "True", "eq", "less", "add", "mul", "error"};

    /* All that is KNOWN, and the parts and fields of the units below. */
    private static final String[] NAMES = {"False", "True", "eq", "less", "add", "mul", "error",
        "E", "N", "R", "S", "P", "Q", "U", "V", "p", "q"};

    /* LOWs of decls end in a digit, LOWs of patterns do not. */
    private static final String[] UNITS = {
        "f0 x y = if eq x 'c' then _ else _; g0 x y z = [if _ then x else y, _, z]; h0 x y = (_ :: Bool, less x 1, [y, 'c'])",
        "f0 x y = add x (mul _ y); g0 = _ 1 2 :: Bool; h0 x y = (less (_ x) (add 1 x), y 2, _ x :: Int); k0 x = (_ x x :: Int, [x, 1])",
        "data T a = E | N a (T a) deriving (Eq, Ord); f0 E = 0; f0 (N _ t) = add 1 (f0 t); g0 x y = [N x _, y]; h0 x y = [_ x y, N 'c' E]",
        "data R a = R {p :: a, q :: Int} | S {p :: a} deriving (Eq); f0 x = (_ x :: Int, [x, S 'c']); g0 x y = [x {p = _}, S y]; h0 x = (_ x, S x :: R Char)",
        "data R a = R {p :: a, q :: Int} | S {p :: a} deriving (Eq); f0 x y = R {q = _, p = add (q x) y}; g0 R {p = x, q = y} = [_, y, x]; g0 (S z) = [_, z]",
        "f0 0 = True; f0 n = g0 (add n 1); g0 0 = _; g0 n = f0 (add n 1); (h0, k0) = (f0, \\x -> case x of {[] -> _ :: Bool; y : z -> y})",
        "f0 :: (Eq a, Num b) => a -> b -> Bool; f0 x y = let {g1 :: c -> c -> c; g1 z w = _; h1 = eq x} in h1 _; g0 x = f0 'c' (_ x 1); h0 x = [_ x, f0 x 1]",
        "f0 x = let {g1 y z = [x, y, z, _]; h1 w = (w, _ :: Bool)} in (g1, h1 1, h1 'c', \\v -> [v, _, x])",
        "f0 g (x : y) = g x : f0 g y; f0 g [] = []; g0 x y = f0 (\\z -> [z, _, x, y]) [1]; h0 x = f0 _ [error x, 2 :: Int] :: [Bool]",
        "data P a b = P a b | Q (a -> b); f0 (P x y) = [x, _]; f0 (Q g) = []; g0 x y = [P x (add y 1), _ x y, _ (mul 2)]; h0 = Q (\\x -> _ x 'c' :: Bool)",
        "f0 = add; g0 = f0 1 2; h0 x = error _ : [error x, 'a']; k0 x y z = (less y x, [x, y], [_, z], [eq, _], [_ y x, _])",
        "data U = U | V Int deriving (Ord, Eq); f0 x U = [x, _]; f0 _ (V y) = [_]; g0 y = if less y U then V _ else (_ 1); h0 = [V, _]",
        "f0 x y z = case (x, y) of {(True, w) -> [w, z]; (_, w) -> if x then [_, z, w] else [if _ then y else _]}",
    };

    private static List<String> tokens(String text) {
        List<String> all = new ArrayList<>();
        Matcher matcher = TOKEN.matcher(text);
        while (matcher.find()) {
            all.add(matcher.group());
        }
        return all;
    }

    private static boolean isOfDecls(String name) {
        return name.matches("[a-z][0-9]");
    }

    /** A LOW of decls in a hole would be used there, and groups could be others; all other names change nothing. */
    private static int fill(String text) {
        int filled = 0;
        TypeInference x = new TypeInference();
        String schemes = Probe.schemes(x, text);
        List<String> tokens = tokens(text);
        for (int k = 0; k < x.told(4); k++) {
            for (int i = 0; i < x.fits(k); i++) {
                int fit = x.fit(k, i);
                String name = fit <= -2 ? KNOWN[-2 - fit] : tokens.get(fit);
                if (!isOfDecls(name)) {
                    List<String> full = new ArrayList<>(tokens);
                    full.set(x.hole(k), name);
                    String other = String.join(" ", full);
                    Probe.due(other, Probe.schemes(new TypeInference(), other), schemes);
                    filled++;
                }
            }
        }
        return filled;
    }

    /** Of a type without variables all is known: a name that does not fit is a fault there, or changes a scheme. */
    private static int miss(String text) {
        int missed = 0;
        TypeInference x = new TypeInference();
        String schemes = Probe.schemes(x, text);
        List<String> tokens = tokens(text);
        for (int k = 0; k < x.told(4); k++) {
            if (Probe.holeScheme(x, k).matches(".*\\b[a-z].*")) {
                continue;
            }
            List<String> fitting = new ArrayList<>();
            for (int i = 0; i < x.fits(k); i++) {
                int fit = x.fit(k, i);
                fitting.add(fit <= -2 ? KNOWN[-2 - fit] : tokens.get(fit));
            }
            for (String name : NAMES) {
                if (!fitting.contains(name) && (tokens.contains(name) || Arrays.asList(KNOWN).contains(name))) {
                    List<String> full = new ArrayList<>(tokens);
                    full.set(x.hole(k), name);
                    String other = String.join(" ", full);
                    Probe.due(other, Probe.schemes(new TypeInference(), other).equals(schemes), false);
                    missed++;
                }
            }
        }
        return missed;
    }

    private static int give(String text) {
        int given = 0;
        TypeInference x = new TypeInference();
        Probe.outcome(x, text);
        for (int i = 0; i < x.told(1); i++) {
            String name = tokens(text).get(x.token(i));
            String other = text + "; " + name + " :: " + Probe.scheme(x, i);
            TypeInference y = new TypeInference();
            String outcome = Probe.outcome(y, other);
            boolean again = outcome.startsWith("3@");
            Probe.due(other, again || outcome.equals("ok"), true);
            if (outcome.equals("ok")) {
                Probe.due(other, Probe.scheme(y, i), Probe.scheme(x, i));
                Probe.due(other, y.group(i), TypeInference.NONE);
                given++;
            }
        }
        return given;
    }

    /** A hole in ( ) is that hole, and blanks tell nothing but where a token ends. */
    private static void spread(String text) {
        TypeInference x = new TypeInference();
        String schemes = Probe.schemes(x, text);
        List<String> tokens = tokens(text);
        for (int k = 0; k < x.told(4); k++) {
            tokens.set(x.hole(k), "( ( _ ) )");
        }
        String wide = " \n" + String.join("\n ", tokens);
        TypeInference y = new TypeInference();
        Probe.due(wide, Probe.schemes(y, wide), schemes);
        for (int k = 0; k < x.told(4); k++) {
            Probe.due("hole " + k + " of " + wide, y.hole(k), x.hole(k) + 4 * k + 2);
            Probe.due("hole " + k + " of " + wide, Probe.holeScheme(y, k), Probe.holeScheme(x, k));
            Probe.due("hole " + k + " of " + wide, y.fits(k), x.fits(k));
        }
    }

    public static void main(String[] args) {
        int filled = 0;
        int missed = 0;
        int given = 0;
        for (String text : UNITS) {
            Probe.right(text);
            filled += fill(text);
            missed += miss(text);
            given += give(text);
            spread(text);
        }
        Probe.due("names that were put into holes", filled > 40, true);
        Probe.due("names that were put where they do not fit", missed > 100, true);
        Probe.due("schemes that were given", given > 20, true);
        Probe.end();
    }
}
