/** Section 1 of the document, by promises 2, 3, 4, 6 and 8: what a text is, and at which token it is none. */
public final class TextsTest {
    private static String times(String s, int n) {
        return s.repeat(n);
    }

    private static void reads(String text, String due) {
        TypeInference x = new TypeInference();
        Probe.tape(x, text);
        int token = x.read();
        Probe.due("read " + text, token == 0 ? "ok" : x.fault() + "@" + (token - 1), due);
        Probe.due("fault behind read " + text, x.fault(), token == 0 ? 0 : 1);
    }

    private static void tokens(String text, int due) {
        TypeInference x = new TypeInference();
        Probe.tape(x, text);
        Probe.due("read " + text, x.read(), 0);
        Probe.due("tokens of " + text, x.told(0), due);
    }

    private static void tokensAsLongAsCanBe() {
        tokens("", 0);
        tokens(" \n ", 0);
        tokens("f=1", 3);
        tokens("f\n=\n1\n", 3);
        tokens("fX_9' '=1", 4);
        tokens("f=123456789", 3);
        tokens("f=12a", 4);
        tokens("f=a:b", 5);
        tokens("f::a->b", 5);
    }

    private static void bytesThatBeginNone() {
        reads("f = 1234567890", "1@2");
        reads("f = '''", "1@2");
        reads("f = ''", "1@2");
        reads("f = 'ab'", "1@2");
        reads("f = '\n'", "1@2");
        reads("f = '" + (char) 127 + "'", "1@2");
        reads("f = ' '", "ok");
        reads("f = '~'", "ok");
        reads("f = '\\'", "ok");
        reads("f = '", "1@2");
        reads("f = -", "1@2");
        reads("f = >", "1@2");
        reads("f = \t1", "1@2");
        reads("f = " + (char) 200, "1@2");
        reads("f = " + (char) 0, "1@2");
        reads("f = 1 @", "1@3");
        reads("f = ) @", "1@2");
        reads("@", "1@0");
        reads("f = ''' '", "1@2");
    }

    private static void mostTokens() {
        String most = "f = [" + times("1, ", 147) + "1]";
        tokens(most, 299);
        tokens(most + ";\n ", 300);
        reads(most + "; f", "1@300");
        reads(most + "; @", "1@300");
        reads(most + " : _", "1@300");
        reads(most + " :", "1@300");
        reads(most + " )", "1@299");
        reads("f = )" + times("1, ", 200), "1@2");
    }

    private static void units() {
        reads(";", "1@0");
        reads("f = 1;", "ok");
        reads("f = 1;;", "1@4");
        reads("f = 1 g = 2", "1@4");
        reads("f = 1; g = 2", "ok");
        reads("f", "1@1");
        reads("f =", "1@2");
        reads("f x", "1@2");
        reads("f ::", "1@2");
        reads("f x :: Int", "1@2");
        reads("f : g = 1", "1@1");
        reads("_ = 1", "1@0");
        reads("_f = 1", "1@0");
        reads("1 = 1", "1@0");
        reads("'c' = 1", "1@0");
        reads("let = 1", "1@0");
        reads("(x) = 1", "ok");
        reads("[] = 1", "ok");
        reads("[x] : y = 1", "ok");
        reads("C = 1", "ok");
        reads("C x {y = z} = 1", "1@2");
        reads("C {y = z} = 1", "ok");
        reads("C {y = z} w = 1", "1@6");
        reads("f C {y = z} w = 1", "ok");
        reads("f _h = 1", "1@1");
    }

    private static void data() {
        reads("data T = C", "ok");
        reads("data t = C", "1@1");
        reads("data T a b c d e = C", "ok");
        reads("data T a b c d e f = C", "1@7");
        reads("data T A = C", "1@2");
        reads("data T =", "1@3");
        reads("data T = c", "1@3");
        reads("data T = C |", "1@5");
        reads("data T = C Int [a] (a, b) () T", "ok");
        reads("data T = C []", "1@5");
        reads("data T = C [a, b]", "1@6");
        reads("data T = C -> a", "1@4");
        reads("data T = C {}", "1@5");
        reads("data T = C {a :: Int -> Int, b :: T a}", "ok");
        reads("data T = C {a = Int}", "1@6");
        reads("data T = C {a :: Int,}", "1@9");
        reads("data T = C {a :: Int} Int", "1@9");
        reads("data T = C deriving", "1@5");
        reads("data T = C deriving Eq", "1@5");
        reads("data T = C deriving ()", "1@6");
        reads("data T = C deriving (Eq, Foo)", "ok");
        reads("data T = C deriving (Eq) | D", "1@8");
        reads("f = let {data T = C} in 1", "1@4");
        reads("f = let {} in 1", "ok");
        reads("f = let {;} in 1", "1@4");
        reads("f = let {x = 1;} in 1", "ok");
        reads("f = let {x = 1;;} in 1", "1@8");
        reads("f = let x = 1 in 1", "1@3");
        reads("f = let {x = 1} 1", "1@8");
    }

    private static void givenTypes() {
        reads("f :: Eq a => a", "ok");
        reads("f :: (Eq a) => a", "ok");
        reads("f :: (Eq a, Ord b, Num c, Eq d, Eq e, Eq g, Eq h) => a", "ok");
        reads("f :: (Eq a, Ord b) -> a", "ok");
        reads("f :: (Eq a, Ord) => a", "1@8");
        reads("f :: Eq => a", "1@3");
        reads("f :: Eq a b => a", "1@5");
        reads("f :: () => a", "1@4");
        reads("f :: Eq a => Ord b => a", "1@7");
        reads("f :: a b", "1@3");
        reads("f :: T a b", "ok");
        reads("f :: (T) a", "1@5");
        reads("f :: a ->", "1@4");
        reads("f :: (a, b, c, d, e)", "ok");
        reads("f :: (a, b, c, d, e, g)", "1@12");
        reads("f :: [a]", "ok");
        reads("f :: []", "1@3");
        reads("f :: (a", "1@4");
        reads("f :: _", "1@2");
    }

    private static void exps() {
        reads("f = \\x y -> x", "ok");
        reads("f = \\ -> x", "1@3");
        reads("f = g \\x -> x", "1@3");
        reads("f = if a then b else c", "ok");
        reads("f = if a then b", "1@6");
        reads("f = if a b c", "1@6");
        reads("f = case x of {}", "1@6");
        reads("f = case x of {1 -> 2}", "ok");
        reads("f = case x of {1 -> 2;}", "ok");
        reads("f = case x of {1 -> 2;;}", "1@10");
        reads("f = case x of {x = 2}", "1@7");
        reads("f = case C {a = 1} of {x : y : [] -> 2; _ -> 3}", "ok");
        reads("f = a : b c : d :: [Int]", "ok");
        reads("f = a :: Int :: Int", "1@5");
        reads("f = a ::: Int", "1@4");
        reads("f ==> 1", "1@2");
        reads("f = a :: Int + b", "1@5");
        reads("f = a {b = 1, c = d e} {g = 2} h", "ok");
        reads("f = a {}", "1@4");
        reads("f = a {b :: Int}", "1@5");
        reads("f = a {B = 1}", "1@4");
        reads("f = (a, b, c, d, e)", "ok");
        reads("f = (a, b, c, d, e, g)", "1@12");
        reads("f (a, b, c, d, e, g) = 1", "1@11");
        reads("f = (a b)", "ok");
        reads("f = (a,)", "1@5");
        reads("f = [a, b, c, d, e, g, h]", "ok");
        reads("f = [a,]", "1@5");
        reads("f = [a", "1@4");
        reads("f = (a]", "1@4");
        reads("f = a in", "1@3");
        reads("f = _ _h", "ok");
    }

    /** The fortieth exp, pat, type or given in others is the last one. */
    private static void levels() {
        reads("f = " + times("(", 39) + "x" + times(")", 39), "ok");
        reads("f = " + times("(", 40) + "x" + times(")", 40), "1@42");
        reads("f = " + times("(", 40), "1@42");
        reads("f = " + times("(", 39) + "()" + times(")", 39), "ok");
        reads("f = " + times("[", 40) + "]" + times("]", 39), "ok");
        reads("f = " + times("\\x -> ", 39) + "x", "ok");
        reads("f = " + times("\\x -> ", 40) + "x", "1@122");
        reads("f " + times("(", 40) + "x" + times(")", 40) + " = 1", "ok");
        reads("f " + times("(", 41) + "x" + times(")", 41) + " = 1", "1@42");
        reads("f (" + times("x : ", 39) + "x) = 1", "ok");
        reads("f (" + times("x : ", 40) + "x) = 1", "1@82");
        reads("f = " + times("x : ", 140) + "x", "ok");
        reads("f :: " + times("a -> ", 38) + "a", "ok");
        reads("f :: " + times("a -> ", 39) + "a", "1@80");
        reads("f = x :: " + times("a -> ", 38) + "a", "ok");
        reads("f = x :: " + times("a -> ", 39) + "a", "1@82");
        reads("f :: Eq a => " + times("[", 38) + "a" + times("]", 38), "ok");
        reads("f :: Eq a => " + times("[", 39) + "a" + times("]", 39), "1@44");
        reads("data T = C " + times("[", 40) + "a" + times("]", 40), "ok");
        reads("data T = C " + times("[", 41) + "a" + times("]", 41), "1@45");
        reads("f = " + times("let {x = ", 39) + "1" + times("} in x", 39), "ok");
        reads("f = " + times("if x then x else ", 39) + "1", "ok");
        reads("f = " + times("if x then x else ", 40) + "1", "1@198");
        reads("f = " + times("(", 38) + "let {x :: a; x = 1} in x" + times(")", 38), "1@44");
        reads("f = " + times("(", 38) + "let {x :: Eq a => a; x = 1} in x" + times(")", 38), "1@47");
        reads("f = " + times("(", 39) + "let {x :: Eq a => a; x = 1} in x" + times(")", 39), "1@45");
        reads("f = " + times("(", 37) + "let {x :: a; x = 1} in x" + times(")", 37), "ok");
    }

    private static void wordsAndNames() {
        for (String word : "data deriving let in case of if then else".split(" ")) {
            reads("f " + word + " = 1", "1@1");
        }
        reads("dat a lets int casee off iff thenn elsee derivin = 1", "ok");
        reads("f' = 1", "1@1");
    }

    public static void main(String[] args) {
        tokensAsLongAsCanBe();
        bytesThatBeginNone();
        mostTokens();
        units();
        data();
        givenTypes();
        exps();
        levels();
        wordsAndNames();
        Probe.end();
    }
}
