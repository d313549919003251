/** Section 3 of the document, by promises 5 and 6: each fault, at its token, and which of two comes first. */
public final class FaultsTest {
    private static void typed(String text, String due) {
        Probe.due(text, Probe.outcome(new TypeInference(), text), due);
    }

    private static void heads() {
        typed("data Int = C", "2@1");
        typed("data Char = C", "2@1");
        typed("data Bool = C", "2@1");
        typed("data Eq = C", "ok");
        typed("data T = C; data T = D", "2@6");
        typed("data T a a = C", "2@3");
        typed("data T = False", "2@3");
        typed("data T = C | True", "2@5");
        typed("data T = C | C", "2@5");
        typed("data T = C; data U = C", "2@8");
        typed("data T = T", "ok");
        typed("data T = C {eq :: Int}", "2@5");
        typed("data T = C {error :: Int}", "2@5");
        typed("data T = C {a :: Int, a :: Int}", "2@9");
        typed("data T = C {a :: Int}; data U = D {a :: Int}", "2@15");
        typed("data T = C {a :: Int} | D {a :: Int}", "ok");
        typed("data T = C {a :: Int} | D {a :: Char}", "2@12");
        typed("data T b = C {a :: [b]} | D {a :: ([b])}", "ok");
        typed("data T b c = C {a :: (b, c)} | D {a :: (c, b)}", "2@18");
        typed("data T b c = C {a :: b -> c} | D {a :: b -> (c)}", "ok");
        typed("data T b = C {a :: Foo b} | D {a :: Foo}", "2@14");
        typed("data T = C Foo; data T = D", "2@7");
    }

    private static void typesOfData() {
        typed("data T = C Foo", "2@4");
        typed("data T = C Eq", "2@4");
        typed("data T = C (Int Int)", "2@5");
        typed("data T a = C (T a)", "ok");
        typed("data T a = C T", "2@5");
        typed("data T a = C (T a a)", "2@6");
        typed("data T a = C b", "2@5");
        typed("data T a = C {f :: [(b, Int)]}", "2@10");
        typed("data T = C (U Int); data U a = D", "ok");
        typed("data T = C U; data U a = D", "2@4");
        typed("data T = C (Foo b)", "2@5");
        typed("data T = C deriving (Num)", "2@6");
        typed("data T = C deriving (T)", "2@6");
        typed("data T = C deriving (Eq, Eq)", "2@8");
        typed("data T = C deriving (Ord)", "2@6");
        typed("data T = C deriving (Ord, Eq)", "ok");
        typed("data T = C deriving (Ord, Num)", "2@6");
        typed("data T = C deriving (Eq, Ord, Ord)", "2@10");
        typed("data T = C Foo deriving (Num); data U = D", "2@4");
        typed("data T = C deriving (Num); data U = D Foo", "2@6");
        typed("f = nope; data T = C Foo", "2@8");
    }

    private static void declared() {
        typed("f = 1; f = 2", "3@4");
        typed("f x = 1; f x = 2", "ok");
        typed("f x = 1; f x y = 2", "3@5");
        typed("f x = 1; g = 2; f x = 3", "3@9");
        typed("f x = 1; f :: a -> Int; f x = 2", "3@11");
        typed("f x = 1; data T = C; f x = 2", "3@10");
        typed("(f, f) = 1", "3@3");
        typed("(f, g) = 1; g = 2", "3@8");
        typed("g = 2; (f, g) = 1", "3@7");
        typed("f :: Int; f :: Int; f = 1", "3@4");
        typed("eq x = 1", "3@0");
        typed("error = 1", "3@0");
        typed("(x, add) = 1", "3@3");
        typed("eq :: Int; eq = 1", "3@0");
        typed("data T = C {a :: Int}; a = 1", "3@10");
        typed("a = 1; data T = C {a :: Int}", "3@0");
        typed("f = let {eq = 1} in eq", "ok");
        typed("data T = C {a :: Int}; f = let {a = 'c'} in a", "ok");
        typed("f = let {x = 1; x = 2} in nope", "3@8");
        typed("f = nope; g = let {x = 1; x = 2} in x", "4@2");
        typed("f :: Int", "3@0");
        typed("f :: Int; g = 1", "3@0");
        typed("f :: Int; (f, g) = 1", "3@0");
        typed("f :: Int; g :: Int; g = 1; g = 2", "3@12");
        typed("f :: Foo; g :: Int; f = 1", "3@4");
        typed("f :: Foo; f = nope", "2@2");
        typed("f :: Eq b => a; f = 1", "2@3");
        typed("f :: Foo a => b; f = 1", "2@2");
        typed("f :: (Eq a, Foo b) => a; f = 1", "2@6");
        typed("f :: (Eq b, Foo a) => a; f = 1", "2@4");
        typed("f :: Eq b => Foo; f = 1", "2@3");
        typed("f :: Int a; f = 1", "2@2");
        typed("data T a = C; f :: T; f = C", "2@8");
        typed("f = let {g :: a} in 1", "3@4");
    }

    private static void meanings() {
        typed("f = x", "4@2");
        typed("f = C", "4@2");
        typed("f = T; data T = C", "4@2");
        typed("f C = 1", "4@1");
        typed("f x = 1; g = x", "4@7");
        typed("f = (\\x -> x) x", "4@8");
        typed("f = case 1 of {x -> x; y -> x}", "4@12");
        typed("f = (let {x = 1} in x) x", "4@12");
        typed("f x = let {g y = h} in y", "4@8");
        typed("f C {a = x} = 1", "4@1");
        typed("f = C {a = nope}", "4@2");
        typed("data T = C {a :: Int}; f = C {b = nope}", "4@14");
        typed("data T = C {a :: Int} | D {b :: Int}; f = C {b = 1}", "4@21");
        typed("data T = C {a :: Int}; f = C {a = nope, a = 1}", "4@18");
        typed("data T = C Int; f C {a = x} = 1", "4@9");
        typed("f = False {a = 1}", "4@4");
        typed("data T = C {a :: Int}; f x = x {a = nope, b = 1}", "4@19");
        typed("data T = C {a :: Int} | D {b :: Int}; f x = x {a = 1, b = 1}", "4@21");
        typed("data T = C {a :: Int} | D {a :: Int, b :: Int}; f x = x {a = 1, b = 1}", "ok");
        typed("data T = C {a :: Int}; f C {a = x, a = y} = 1", "4@17");
        typed("data T = C {a :: Int}; f C {a = x} = nope", "4@18");
        typed("data T = C {a :: Int}; f C {a = 'c', b = x} = 1", "4@17");
        typed("data T = C {a :: Int}; f = C {a = 'c', b = 1}", "4@18");
    }

    private static void patterns() {
        typed("data T = C Int; f C = 1", "5@7");
        typed("data T = C Int; f (C x y) = 1", "5@8");
        typed("data T = C Int; f (C x) = 1", "ok");
        typed("f (True x) = 1", "5@2");
        typed("f x x = 1", "3@2");
        typed("f (x, [x]) = 1", "3@5");
        typed("f = \\x (x) -> 1", "3@5");
        typed("f = case 1 of {(x, x) -> 1}", "3@9");
        typed("f x = \\x -> x", "ok");
        typed("f (x, C, x) = 1", "4@4");
        typed("f (x, x, C) = 1", "3@4");
        typed("data T = C {a :: Int, b :: Int}; f C {a = x, b = x} = 1", "3@23");
    }

    private static void unified() {
        typed("f = eq 1 True; g = add 'c'", "8@3");
        typed("f = if 1 then 2 else 3", "8@3");
        typed("f = if 'c' then 2 else 3", "6@3");
        typed("f = if True then 'c' else ()", "6@7");
        typed("f = ['c', (True)]", "6@6");
        typed("f = 'a' : 'b' : 'c'", "6@5");
        typed("f = 'a' : True : []", "6@3");
        typed("f = 'a' : (True : [])", "6@3");
        typed("f = True 'c'", "6@3");
        typed("f x = x (x)", "7@5");
        typed("f = (eq) (True) ('c')", "6@9");
        typed("f = 'c' :: Int", "6@3");
        typed("f = 'c' :: a", "2@4");
        typed("f = nope :: Foo", "2@4");
        typed("f True = 1; f 'c' = 2", "6@5");
        typed("f 1 = True; f x = 'c'", "6@5");
        typed("f x = case x of {'c' -> 1; True -> 2}", "6@11");
        typed("f x = case x of {'c' -> True; _ -> 'c'}", "6@13");
        typed("f (x : 'c') = 1", "6@3");
        typed("f [x, 'c', True] = 1", "6@6");
        typed("f = (\\(x, y) -> x) True", "6@12");
        typed("(x, y) = True", "6@0");
        typed("((x, y)) = True", "6@1");
        typed("(x) = (x, x)", "7@1");
        // The LOWs of a pat = exp are looked at when the whole pat is typed.
        typed("f = x True; [x, 'c'] = [f]", "6@6");
        typed("f = (1, 2, 3) : [(1, 2)]", "6@9");
        typed("data T a = C a (T a); f (C 'c' (C True x)) = x", "6@16");
        typed("data T = C {a :: Int}; f = C {a = ('c')}", "6@17");
        typed("data T = C {a :: Int}; f = 'c' {a = nope}", "6@13");
        typed("data T a = C {a :: a}; f x = x {a = 'c'} {a = True}", "6@23");
        typed("f :: a -> b; f x = x", "6@6");
        typed("f :: a -> Int; f x = x", "6@6");
        typed("f :: Int -> Int; f x = 1; f 'c' = 2", "6@11");
        typed("f y = let {g :: a -> a; g x = y} in g", "6@11");
        typed("x = let {} in x x", "7@7");
        typed("f = f f", "7@3");
        typed("f (x : y) = y x", "6@8");
    }

    private static void wants() {
        typed("f = add 'c'", "8@2");
        typed("f x = eq x (\\y -> y)", "8@3");
        typed("f x = less (x, \\y -> y) x", "7@12");
        typed("f = less [(1, \\y -> y)]", "8@2");
        typed("data T = C; f = less C", "8@7");
        typed("data T = C deriving (Eq); f = less C", "8@11");
        typed("data T = C deriving (Eq, Ord); f = less C", "ok");
        typed("data T a = C a deriving (Eq); f = eq (C add)", "8@13");
        typed("data T a = C deriving (Eq); f x = eq [C] [x :: T (Int -> Int)]", "8@13");
        typed("data T = C (Int -> Int) deriving (Eq); f x = eq (C x)", "ok");
        typed("f :: a -> a -> Bool; f x y = eq x y", "8@12");
        typed("f :: Eq a => a -> a -> Bool; f x y = less x y", "8@15");
        typed("f :: Ord a => a -> a -> Bool; f x y = eq x y", "ok");
        typed("f :: Num a => a -> a -> Bool; f x y = eq x y", "8@15");
        typed("f :: Eq a => [a] -> Bool; f x = eq x []", "ok");
        typed("f :: a -> Int; f x = 1; g = f (add 'c')", "8@15");
        typed("f x = eq [] []", "9@3");
        typed("f = eq [] []", "9@2");
        typed("f x = (eq [] [], less 1 2)", "9@4");
        typed("f x = eq [] [] ; g = 'c' 'c'", "9@3");
        typed("g = 'c' 'c'; f = eq [] []", "6@3");
        typed("f = eq [] []; g = 'c' 'c'", "6@11");
        // The Eq that gives way counts where it does, but does not go outward.
        typed("f y = (\\x -> [eq x x, less x x]) (error [])", "9@8");
        typed("f = (\\x -> [eq x x, less x x]) (error [])", "9@11");
        typed("f y = let {g :: Int -> Bool; g z = eq [] []} in y", "9@14");
        typed("f = eq 'c' (add 1)", "6@5");
        typed("f = add True; g = less (\\x -> x)", "8@2");
    }

    private static String tuple(int n) {
        StringBuilder s = new StringBuilder("(Int");
        for (int i = 1; i < n; i++) {
            s.append(", Int");
        }
        return s.append(")").toString();
    }

    private static void sizes() {
        String ten = "(" + tuple(4) + ", " + tuple(3) + ")";
        // A tuple of five tens has 51 parts.
        String five = "(" + ten + ", " + ten + ", " + ten + ", " + ten + ", " + ten + ")";
        typed("data T = C " + five + " Int Int [Int]", "ok");
        typed("data T = C " + five + " Int [Int] [Int]", "10@3");
        typed("data T = C " + five + " Int [Int] [Int]; data U = D Foo", "2@117");
        typed("data T = C " + five + " Int [Int] [Int]; f = 1; f = 2", "10@3");
        typed("f :: Int -> Int -> Int -> Int -> [" + five + "]; f = _", "ok");
        typed("f :: Int -> Int -> Int -> Int -> Int -> " + five + "; f = _", "10@0");
        typed("f :: Int -> Int -> Int -> Int -> Int -> " + five + "; f = _; g :: Foo; g = 1", "10@0");
        typed("g :: Foo; f :: Int -> Int -> Int -> Int -> Int -> " + five + "; f = _; g = 1", "2@2");
        // The type of a behind ::, ahead of its being another one.
        typed("f = 'c' :: Int -> Int -> Int -> Int -> Int -> " + five, "10@3");
        typed("a = (1, (2, 3)); b = let {c = (a, a); d = (c, c); e = (d, d); f = (e, e); g = (f, f)} in g", "10@40");
        String big = "d (d (d (d 'c')))";
        // A tuple of two with 31 parts each has 63, and nobody has looked at it yet.
        String pair = "(" + big + ", " + big + ")";
        typed("d x = (x, x); f = " + big, "ok");
        typed("d x = (x, x); f = " + pair, "10@9");
        typed("d x = (x, x); f = [" + pair + ", 'c']", "10@38");
        typed("d x = (x, x); f y = (\\x -> y) " + pair, "10@18");
        typed("d x = (x, x); f x = case d (d (d (d x))) of {y -> (y, eq (y, y))}", "10@32");
        typed("d x = (x, x); f x = " + pair + " 'c' 'c'", "10@37");
    }

    /** Types within two that are unified, as they are when they are come to. */
    private static void sizesWithin() {
        String d = "d x = (x, x); ";
        String big = "d (d (d (d 'c')))";
        // 31 parts within x -> r; then a is that, and (a, a) has 63.
        typed(d + "f = d (d (d (d (d 'c'))))", "10@13");
        typed(d + "f = d (d (d (d (d (d 'c')))))", "10@15");
        typed("f x = (x, x, x, x, x); g = f (f (f 1))", "10@19");
        // 60 parts, and 61.
        String p29 = "(d (d (d 'c')), d (d 'c'), d 'c', d 'c')";
        typed(d + "e x = (x, x, 'c'); f = e " + p29, "ok");
        typed(d + "f = d [" + p29 + "]", "10@12");
        // The right one of the two, and the left one.
        typed(d + "f y z = [(z, y), (" + big + ", (z, z))]", "10@20");
        typed(d + "f y z = [(" + big + ", (z, z)), (z, y)]", "10@34");
        String five = "('c', 'c', 'c', 'c', 'c')";
        String pat = "(" + five + ", " + five + ", " + five + ", " + five + ", " + five + ")";
        typed("f y = case (y, (y, y)) of {(" + pat + ", z) -> 'c'}", "10@15");
        typed(d + "data T a b = C a b; f y = case [C y (y, y), C (" + big + ") True] of {_ -> 'c'}", "10@31");
        // Ahead of all else that could be said of that pair: not alike, endless, alike already.
        typed(d + "f y = [(y, (y, y)), (" + big + ", 'c')]", "10@23");
        typed(d + "f y = [(y, (y, y)), ('c', 'c')]", "6@23");
        typed(d + "f y z = [((y, y), 'c'), ((z, " + big + "), (y, y))]", "10@24");
        typed(d + "f y z = [(y, (y, y)), (d (d (d (d z))), z)]", "10@24");
        typed(d + "f y z = [(y, (y, y)), (d (d (d z)), z)]", "7@24");
        typed(d + "f y z = case [z, (y, y)] of {_ -> [(y, z), (" + big + ", z)]}", "10@34");
        typed(d + "f y z = case [z, (y, y)] of {_ -> [(y, z), (d (d 'c'), z)]}", "ok");
        // What is to the left of a pair comes ahead of it, with all that is within.
        typed(d + "f y = [(y, 'c', (y, y)), (" + big + ", True, True)]", "6@25");
        typed(d + "f y = [(y, (y, y), 'c'), (" + big + ", True, True)]", "10@25");
        typed(d + "f y z = [((y, 'c'), (y, y)), ((" + big + ", True), z)]", "6@28");
        typed(d + "f y z = [((y, y), y), ((z, " + big + "), (y, y))]", "10@24");
        // What grows behind its own turn is not looked at again there.
        typed(d + "f y z = [(y, " + big + "), (" + big + ", z)]", "10@9");
        typed(d + "f y z = ([(y, " + big + "), (" + big + ", z)], 'c' 'c')", "6@49");
        typed(d + "f y z = [((y, y), y), (z, " + big + ")]", "10@9");
    }

    /** Types that grow while nobody looks at them. */
    private static void sizesThatGrew() {
        String big = "d (d (d (d 'c')))";
        // Of what is wanted, ahead of whether it is given.
        typed("d x = (x, x); f x = (add (x, x), [x, " + big + "])", "10@9");
        typed("d x = (x, x); f x = case [add (x, x)] of {_ -> case [x, " + big + "] of {_ -> 'c'}}", "10@14");
        // Of a LOW that is closed, ahead of what is settled.
        typed("d x = (x, x); f x = (x, x, g x); g y = case [f y] of {_ -> case [y, " + big + "] of {_ -> 'c'}}", "10@9");
        typed("d x = (x, x); f x = (x, x, g x); g y = case [f y] of {_ -> case [y, " + big + "] of {_ -> eq [] []}}", "10@9");
        // Of a LOW of which an instance is made.
        typed("d x = (x, x); f x = let {y = (x, x)} in case [x, " + big + "] of {_ -> (\\z -> 'c') y}", "10@49");
        // Of a LOW of the unit at the end.
        typed("d x = (x, x); (n, q) = (\\x -> (x, x, [eq x, eq q]), error []); "
            + "m = case [q, " + big + "] of {_ -> 'c'}", "10@10");
        // Of a hole, at the end.
        typed("d x = (x, x); f x = case [_h, (x, x)] of {_ -> case [x, " + big + "] of {_ -> 'c'}}", "10@14");
        typed("d x = (x, x); f x = case [_h, (x, x)] of {_ -> case [x, " + big + "] of {_ -> 'c'}}; g = eq [] []", "9@52");
    }

    public static void main(String[] args) {
        heads();
        typesOfData();
        declared();
        meanings();
        patterns();
        unified();
        wants();
        sizes();
        sizesWithin();
        sizesThatGrew();
        Probe.end();
    }
}
