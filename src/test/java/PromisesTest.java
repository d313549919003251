import java.util.ArrayList;
import java.util.List;

/** The calls of the face, promise by promise: ordinary answers, edges, and what they throw, and when first. */
public final class PromisesTest {
    private static final String OUTSIDE = "IndexOutOfBoundsException";
    private static final String STATE = "IllegalStateException";
    private static final String ARGUMENT = "IllegalArgumentException";
    private static final String FULL = "UnsupportedOperationException";

    /** All that can be asked without changing anything. */
    private static String state(TypeInference x) {
        List<String> all = new ArrayList<>();
        all.add("tape " + x.cut(0) + " fault " + x.fault());
        for (int i = -1; i < 7; i++) {
            int k = i;
            all.add("told " + x.told(k));
            all.add("token " + Probe.thrown(() -> x.token(k)));
            all.add("group " + Probe.thrown(() -> x.group(k)));
            all.add("hole " + Probe.thrown(() -> x.hole(k)));
            all.add("fits " + Probe.thrown(() -> x.fits(k)));
            all.add("fit " + Probe.thrown(() -> x.fit(k, 0)));
            all.add("octet " + Probe.thrown(() -> x.octet(k)));
        }
        return String.join(", ", all);
    }

    private static void promise1() {
        TypeInference x = new TypeInference();
        Probe.due("NONE", TypeInference.NONE, -1);
        Probe.due("the tape", x.cut(0), 0);
        Probe.due("fault", x.fault(), 0);
        for (int i = 0; i < 6; i++) {
            Probe.due("told " + i, x.told(i), 0);
        }
        Probe.due("type", Probe.thrown(() -> x.type(0)), OUTSIDE);
        Probe.due("octet", Probe.thrown(() -> x.octet(0)), OUTSIDE);
        Probe.due("setting 0", x.setting(0, true), true);
        Probe.due("setting 1", x.setting(1, true), true);
        Probe.due("infer", x.infer(), 0);
        Probe.due("groups", x.told(5), 0);
        Probe.due("fault", x.fault(), 0);
        Probe.due("another object", Probe.schemes(new TypeInference(), "f = 'c'"), "Char");
        Probe.due("this one", x.told(1), 0);
    }

    private static void promises2And3() {
        TypeInference x = new TypeInference();
        Probe.due("cut -1", Probe.thrown(() -> x.cut(-1)), ARGUMENT);
        Probe.due("cut 1", Probe.thrown(() -> x.cut(1)), ARGUMENT);
        Probe.due("cut 0", x.cut(0), 0);
        for (int i = 1; i <= 75; i++) {
            Probe.due("feed " + i, x.feed(0x20202020, 0x20202020, 0x20202020, 0x20202020, 0x20202020), 20 * i);
        }
        Probe.due("feed 76", Probe.thrown(() -> x.feed(1, 2, 3, 4, 5)), FULL);
        Probe.due("the tape", x.cut(0), 1500);
        Probe.due("cut 1501", Probe.thrown(() -> x.cut(1501)), ARGUMENT);
        Probe.due("cut -1", Probe.thrown(() -> x.cut(Integer.MIN_VALUE)), ARGUMENT);
        Probe.due("cut 19", x.cut(19), 1481);
        Probe.due("feed", Probe.thrown(() -> x.feed(1, 2, 3, 4, 5)), FULL);
        Probe.due("cut 1", x.cut(1), 1480);
        Probe.due("feed", x.feed(0x66203d20, 0x27612720, 0x3b206720, 0x3d202762, 0x27202020), 1500);
        Probe.due("read", x.read(), 0);
        Probe.due("infer", x.infer(), 0);
        Probe.due("told", x.told(1), 2);
        Probe.due("type", Probe.scheme(x, 1), "Char");
        Probe.due("token", x.token(1), 4);
        Probe.due("cut all", x.feed(-1, -1, -1, -1, -1), 20);
        Probe.due("cut all", x.cut(20), 0);
        Probe.tape(x, "f = \\x -> xyz");
        Probe.due("cut 2", x.cut(2), 11);
        Probe.due("read", x.read(), 0);
        Probe.due("infer", x.infer(), 0);
        Probe.due("type", Probe.scheme(x, 0), "a -> a");
    }

    private static void promise4() {
        TypeInference x = new TypeInference();
        Probe.due("first unit", Probe.schemes(x, "f x = 'c'; g = _"), "a -> Char; a");
        Probe.tape(x, "h = )");
        Probe.due("read", x.read(), 3);
        Probe.due("fault", x.fault(), 1);
        Probe.due("the tape", x.cut(0), 0);
        Probe.due("the unit before", x.told(1), 2);
        Probe.due("its tokens", x.told(0), 8);
        Probe.due("its hole", x.hole(0), 7);
        Probe.due("not typed", Probe.thrown(() -> x.type(0)), STATE);
        Probe.due("no groups", x.told(5), 0);
        Probe.due("infer", x.infer(), 0);
        Probe.due("fault", x.fault(), 0);
        Probe.due("type", Probe.scheme(x, 0), "a -> Char");
        Probe.due("read nothing", x.read(), 0);
        Probe.due("a unit without decls", x.told(0), 0);
        Probe.due("no name", Probe.thrown(() -> x.type(0)), OUTSIDE);
        Probe.tape(x, "f = 1");
        Probe.due("read", x.read(), 0);
        Probe.due("not typed", Probe.thrown(() -> x.type(0)), STATE);
    }

    private static void promises5And6() {
        TypeInference x = new TypeInference();
        Probe.tape(x, "f = 'c' 'c'");
        Probe.due("read", x.read(), 0);
        Probe.due("fault", x.fault(), 0);
        Probe.due("infer", x.infer(), 4);
        Probe.due("fault", x.fault(), 6);
        Probe.due("infer again", x.infer(), 4);
        Probe.due("not typed", Probe.thrown(() -> x.type(0)), STATE);
        Probe.due("no groups", x.told(5), 0);
        Probe.tape(x, "f");
        Probe.due("read", x.read(), 2);
        Probe.due("fault", x.fault(), 1);
        Probe.due("read", x.read(), 0);
        Probe.due("fault", x.fault(), 0);
        Probe.due("infer", x.infer(), 0);
        Probe.due("unit", Probe.schemes(x, "f = 'c'"), "Char");
        Probe.due("infer twice", x.infer(), 0);
        Probe.due("same", Probe.scheme(x, 0), "Char");
    }

    private static void promise7() {
        TypeInference x = new TypeInference();
        Probe.due("setting 2", Probe.thrown(() -> x.setting(2, true)), ARGUMENT);
        Probe.due("setting -1", Probe.thrown(() -> x.setting(-1, false)), ARGUMENT);
        Probe.due("setting 0 off", x.setting(0, false), true);
        Probe.due("setting 0 off", x.setting(0, false), false);
        Probe.due("setting 0 on", x.setting(0, true), false);
        Probe.due("setting 1 off", x.setting(1, false), true);
        Probe.due("setting 0 off", x.setting(0, false), true);
        Probe.due("setting 1 on", x.setting(1, true), false);
        Probe.due("not narrow", Probe.schemes(x, "f = add"), "Num a => a -> a -> a");
        x.setting(0, true);
        Probe.due("typed before", Probe.scheme(x, 0), "Num a => a -> a -> a");
        Probe.due("infer", x.infer(), 0);
        Probe.due("narrow", Probe.scheme(x, 0), "Int -> Int -> Int");
    }

    private static void promises8And9() {
        TypeInference x = new TypeInference();
        Probe.tape(x, "data T = C | D Int; f :: T; data U = E {p :: Int}; f = _; (g, h) = (_x, f); k 1 = _; k _ = f");
        Probe.due("read", x.read(), 0);
        int[] due = {47, 4, 2, 3, 3, 0, -1, -1};
        for (int i = 0; i < due.length; i++) {
            Probe.due("told " + i, x.told(i), due[i]);
        }
        Probe.due("told -1", x.told(-1), -1);
        int[] tokens = {22, 27, 29, 38};
        for (int i = 0; i < tokens.length; i++) {
            Probe.due("token " + i, x.token(i), tokens[i]);
        }
        Probe.due("token 4", Probe.thrown(() -> x.token(4)), OUTSIDE);
        Probe.due("token -1", Probe.thrown(() -> x.token(-1)), OUTSIDE);
        Probe.due("infer", x.infer(), 0);
        Probe.due("groups", x.told(5), 2);
        Probe.due("read", x.read(), 0);
        Probe.due("groups", x.told(5), 0);
        Probe.tape(x, "f = 1; g = 2; f = let {h = 3} in h; (g, k) = 4");
        Probe.due("read", x.read(), 0);
        Probe.due("each LOW once", x.told(1), 3);
        Probe.due("the first token", x.token(0), 0);
        Probe.due("the last LOW", x.token(2), 22);
    }

    private static void promises10And11() {
        TypeInference x = new TypeInference();
        Probe.due("unit", Probe.outcome(x, "f x = eq x; g :: Int; g = 1"), "ok");
        Probe.due("type", x.type(0), 22);
        Probe.due("written", Probe.written(x, 22), "Eq a => a -> a -> Bool");
        Probe.due("type", x.type(1), 3);
        Probe.due("written", Probe.written(x, 3), "Int");
        Probe.due("type 2", Probe.thrown(() -> x.type(2)), OUTSIDE);
        Probe.due("type -1", Probe.thrown(() -> x.type(-1)), OUTSIDE);
        Probe.due("still written", Probe.written(x, 3), "Int");
        Probe.due("group 0", x.group(0), 0);
        Probe.due("group 1", x.group(1), -1);
        Probe.due("group 2", Probe.thrown(() -> x.group(2)), OUTSIDE);
        Probe.due("group -1", Probe.thrown(() -> x.group(-1)), OUTSIDE);
        Probe.due("unit", Probe.outcome(x, "f = 'c' 'c'"), "6@3");
        Probe.due("type 0", Probe.thrown(() -> x.type(0)), STATE);
        Probe.due("type 1", Probe.thrown(() -> x.type(1)), OUTSIDE);
        Probe.due("group 0", Probe.thrown(() -> x.group(0)), STATE);
        Probe.due("group 1", Probe.thrown(() -> x.group(1)), OUTSIDE);
    }

    private static void promises12To15() {
        TypeInference x = new TypeInference();
        Probe.tape(x, "f = [_, True]; g = _ :: [Int]");
        Probe.due("read", x.read(), 0);
        Probe.due("hole 0", x.hole(0), 3);
        Probe.due("hole 1", x.hole(1), 10);
        Probe.due("hole 2", Probe.thrown(() -> x.hole(2)), OUTSIDE);
        Probe.due("holeType 0", Probe.thrown(() -> x.holeType(0)), STATE);
        Probe.due("holeType 2", Probe.thrown(() -> x.holeType(2)), OUTSIDE);
        Probe.due("fits 0", Probe.thrown(() -> x.fits(0)), STATE);
        Probe.due("fits -1", Probe.thrown(() -> x.fits(-1)), OUTSIDE);
        Probe.due("fit 0 -1", Probe.thrown(() -> x.fit(0, -1)), STATE);
        Probe.due("fit 2 0", Probe.thrown(() -> x.fit(2, 0)), OUTSIDE);
        Probe.due("infer", x.infer(), 0);
        Probe.due("holeType 0", x.holeType(0), 4);
        Probe.due("written", Probe.written(x, 4), "Bool");
        Probe.due("holeType 1", x.holeType(1), 5);
        Probe.due("written", Probe.written(x, 5), "[Int]");
        Probe.due("holeType 2", Probe.thrown(() -> x.holeType(2)), OUTSIDE);
        Probe.due("fits 0", x.fits(0), 2);
        Probe.due("fit 0 0", x.fit(0, 0), -2);
        Probe.due("fit 0 1", x.fit(0, 1), -3);
        Probe.due("fit 0 2", Probe.thrown(() -> x.fit(0, 2)), OUTSIDE);
        Probe.due("fit 0 -1", Probe.thrown(() -> x.fit(0, -1)), OUTSIDE);
        Probe.due("fit 2 0", Probe.thrown(() -> x.fit(2, 0)), OUTSIDE);
        Probe.due("fits 1", x.fits(1), 1);
        Probe.due("fit 1 0", x.fit(1, 0), 8);
        Probe.due("fits 2", Probe.thrown(() -> x.fits(2)), OUTSIDE);
        Probe.due("still written", Probe.written(x, 5), "[Int]");
    }

    private static void promise16() {
        TypeInference x = new TypeInference();
        Probe.tape(x, "f x = x");
        Probe.due("read", x.read(), 0);
        Probe.due("covers 1", Probe.thrown(() -> x.covers(1)), OUTSIDE);
        Probe.due("covers 0", Probe.thrown(() -> x.covers(0)), STATE);
        Probe.due("infer", x.infer(), 0);
        Probe.due("covers -1", Probe.thrown(() -> x.covers(-1)), OUTSIDE);
        Probe.due("covers 0", Probe.thrown(() -> x.covers(0)), ARGUMENT);
        String before = state(x);
        Probe.tape(x, "Int -> Int");
        Probe.due("covers 0", x.covers(0), true);
        Probe.due("covers 0", x.covers(0), true);
        Probe.tape(x, " -> a");
        Probe.due("covers 0", x.covers(0), false);
        Probe.tape(x, ")");
        Probe.due("covers 0", Probe.thrown(() -> x.covers(0)), ARGUMENT);
        Probe.due("the tape", x.cut(16), 0);
        Probe.due("nothing changed", state(x), before);
        Probe.due("type", Probe.scheme(x, 0), "a -> a");
    }

    private static void promise17() {
        TypeInference x = new TypeInference();
        Probe.due("octet 0", Probe.thrown(() -> x.octet(0)), OUTSIDE);
        Probe.due("unit", Probe.outcome(x, "f = 'c'; g = [_, 'c']"), "ok");
        Probe.due("octet 0", Probe.thrown(() -> x.octet(0)), OUTSIDE);
        Probe.due("type", x.type(1), 6);
        int[] due = {'[', 'C', 'h', 'a', 'r', ']'};
        for (int i = 0; i < due.length; i++) {
            Probe.due("octet " + i, x.octet(i), due[i]);
        }
        Probe.due("octet 6", Probe.thrown(() -> x.octet(6)), OUTSIDE);
        Probe.due("octet -1", Probe.thrown(() -> x.octet(-1)), OUTSIDE);
        Probe.due("holeType", x.holeType(0), 4);
        Probe.due("octet 4", Probe.thrown(() -> x.octet(4)), OUTSIDE);
        Probe.due("another unit", Probe.outcome(x, "f ="), "1@2");
        Probe.due("octet 3", x.octet(3), 114);
        Probe.due("another unit", Probe.outcome(x, "f = 1"), "ok");
        Probe.due("octet 3", x.octet(3), 114);
    }

    /** Names of data may be long, and stand often in a type. */
    private static void longTexts() {
        TypeInference x = new TypeInference();
        String name = "T".repeat(1300);
        String unit = "data " + name + " = C; d x = (x, x); f = d (d (d (d C)))";
        Probe.due("a long name", Probe.outcome(x, unit), "ok");
        int length = x.type(1);
        String written = Probe.written(x, length);
        Probe.due("its length", length, 16 * 1300 + 15 * 4);
        Probe.due("as often as it stands there", written.split("T+").length, 17);
    }

    /** A call that throws changes nothing. */
    private static void throwingChangesNothing() {
        TypeInference x = new TypeInference();
        Probe.due("unit", Probe.outcome(x, "data T = C {p :: Int}; f x = p x; g = _ :: Int; h = _"), "ok");
        x.type(1);
        Probe.tape(x, "Foo ->");
        String before = state(x);
        Probe.Call[] calls = {() -> x.cut(7), () -> x.cut(-1), () -> x.setting(9, true), () -> x.token(3),
            () -> x.type(3), () -> x.type(-1), () -> x.group(3), () -> x.hole(2), () -> x.holeType(2), () -> x.fits(2),
            () -> x.fit(0, 99), () -> x.fit(2, 0), () -> x.covers(0), () -> x.covers(3), () -> x.octet(99)};
        for (int i = 0; i < calls.length; i++) {
            Probe.due("call " + i, Probe.thrown(calls[i]).endsWith("Exception"), true);
            Probe.due("behind call " + i, state(x), before);
        }
    }

    public static void main(String[] args) {
        promise1();
        promises2And3();
        promise4();
        promises5And6();
        promise7();
        promises8And9();
        promises10And11();
        promises12To15();
        promise16();
        promise17();
        longTexts();
        throwingChangesNothing();
        Probe.end();
    }
}
