import java.util.ArrayList;
import java.util.List;

/**
 * Each call of the face, promise by promise: the last number that is taken and the first that is refused, on both
 * sides; which exception comes first; and what the object answers behind a call that was refused.
 */
public final class CallEdgesTest {
    private static final String OUTSIDE = "IndexOutOfBoundsException";
    private static final String STATE = "IllegalStateException";
    private static final String ARGUMENT = "IllegalArgumentException";
    private static final String FULL = "UnsupportedOperationException";
    private static final int[] FAR = {Integer.MIN_VALUE, Integer.MIN_VALUE + 1, -1000, Integer.MAX_VALUE - 1, Integer.MAX_VALUE};

    private static void is(String what, Object got, Object due) {
        Probe.due(what, got, due);
    }

    private static void thrown(String what, Probe.Call call, String due) {
        Probe.due(what, Probe.thrown(call), due);
    }

    /** A call of one number: what is taken from 0 on, and all else is refused. */
    private interface Numbered {
        Object go(int i);
    }

    /** The numbers from 0 below count are taken, those beside them and far from them are not. */
    private static void taken(String what, Numbered call, int count, String refused) {
        for (int i = 0; i < count; i++) {
            int k = i;
            is(what + " " + i + " is taken", Probe.thrown(() -> call.go(k)).endsWith("Exception"), false);
        }
        thrown(what + " -1", () -> call.go(-1), refused);
        thrown(what + " " + count, () -> call.go(count), refused);
        for (int far : FAR) {
            thrown(what + " " + far, () -> call.go(far), refused);
        }
    }

    /** What an object answers to all that can be asked of it without a change, with what was written latest. */
    private static String answers(TypeInference x) {
        List<Object> all = new ArrayList<>();
        all.add(x.cut(0));
        all.add(x.fault());
        for (int i = -1; i <= 6; i++) {
            all.add(x.told(i));
        }
        for (int i = -1; i <= x.told(1); i++) {
            int k = i;
            all.add(Probe.thrown(() -> x.token(k)));
            all.add(Probe.thrown(() -> x.group(k)));
            all.add(Probe.thrown(() -> x.covers(k)));
        }
        for (int i = -1; i <= x.told(4); i++) {
            int k = i;
            all.add(Probe.thrown(() -> x.hole(k)));
            all.add(Probe.thrown(() -> x.fits(k)));
            all.add(Probe.thrown(() -> x.fit(k, 0)));
        }
        for (int i = -1; i < 40; i++) {
            int k = i;
            all.add(Probe.thrown(() -> x.octet(k)));
        }
        return all.toString();
    }

    /** "An empty TAPE, a unit without decls, not typed; both settings on." */
    private static void newObject() {
        TypeInference x = new TypeInference();
        is("NONE", TypeInference.NONE, -1);
        is("the tape", x.cut(0), 0);
        thrown("more than the tape has", () -> x.cut(1), ARGUMENT);
        is("fault", x.fault(), 0);
        for (int what = 0; what <= 5; what++) {
            is("told " + what, x.told(what), 0);
        }
        taken("token", x::token, 0, OUTSIDE);
        taken("type", x::type, 0, OUTSIDE);
        taken("group", x::group, 0, OUTSIDE);
        taken("hole", x::hole, 0, OUTSIDE);
        taken("holeType", x::holeType, 0, OUTSIDE);
        taken("fits", x::fits, 0, OUTSIDE);
        taken("fit", k -> x.fit(k, 0), 0, OUTSIDE);
        taken("covers", x::covers, 0, OUTSIDE);
        taken("octet", x::octet, 0, OUTSIDE);
        is("setting 0", x.setting(0, true), true);
        is("setting 1", x.setting(1, true), true);
        is("infer", x.infer(), 0);
        is("groups", x.told(5), 0);
        thrown("type 0", () -> x.type(0), OUTSIDE);
        is("read", x.read(), 0);
        is("narrow and local", Probe.schemes(new TypeInference(), "f = add; g = let {h x = x} in (h 'c', h f)"),
            "Int -> Int -> Int; (Char, Int -> Int -> Int)");
    }

    /** "Twenty bytes come behind the TAPE, the highest of each int first: how many it has." */
    private static void feed() {
        TypeInference x = new TypeInference();
        is("feed", x.feed(0x66203d20, 0x5b276127, 0x2c276227, 0x2c276327, 0x2c276427), 20);
        is("feed", x.feed(0x2c276527, 0x5d3b6720, 0x3d205f20, 0x20202020, 0x20202020), 40);
        is("read", x.read(), 0);
        is("tokens", x.told(0), 17);
        is("token", x.token(1), 14);
        is("feed of bytes above 127", x.feed(-1, -1, -1, -1, -1), 20);
        is("read", x.read(), 1);
        is("feed", x.feed(0x66203d20, 0x27612720, 0x202020a0, 0x20202020, 0x20202020), 20);
        is("the lowest byte of the third", x.read(), 4);
        for (int i = 1; i <= 75; i++) {
            is("feed " + i, x.feed(0x0a202020, 0x20202020, 0x20202020, 0x20202020, 0x2020200a), 20 * i);
        }
        for (int i = 0; i < 3; i++) {
            thrown("feed of a full tape", () -> x.feed(0x66203d20, 0x27612720, 0, 0, 0), FULL);
            is("the tape", x.cut(0), 1500);
        }
        is("cut", x.cut(19), 1481);
        thrown("feed of 1481", () -> x.feed(0x66203d20, 0x27612720, 0, 0, 0), FULL);
        is("the tape", x.cut(0), 1481);
        is("cut", x.cut(1), 1480);
        is("feed of 1480", x.feed(0x66203d20, 0x27612720, 0x20202020, 0x20202020, 0x2020203b), 1500);
        is("read", x.read(), 0);
        is("all 1500 bytes", x.told(0), 4);
        is("the tape", x.cut(0), 0);
    }

    /** "The last n bytes go .. IllegalArgument: n is below 0, or more than there are." */
    private static void cut() {
        TypeInference x = new TypeInference();
        Probe.tape(x, "f = 'abc");
        for (int n : new int[] {-1, 9, Integer.MIN_VALUE, Integer.MAX_VALUE, 1500, 1501}) {
            thrown("cut " + n, () -> x.cut(n), ARGUMENT);
            is("the tape behind it", x.cut(0), 8);
        }
        is("cut 2", x.cut(2), 6);
        Probe.tape(x, "'");
        is("the tape", x.cut(0), 7);
        is("read", x.read(), 0);
        is("its tokens", x.told(0), 3);
        Probe.tape(x, "abcd");
        is("cut all", x.cut(4), 0);
        thrown("cut of none", () -> x.cut(1), ARGUMENT);
        is("cut nothing of none", x.cut(0), 0);
        is("nothing is a unit", x.read(), 0);
        is("its tokens", x.told(0), 0);
    }

    /** "The TAPE, which is empty then, is the unit (fault 1: the one before stays) .. The unit is not typed then, in both cases." */
    private static void read() {
        TypeInference x = new TypeInference();
        is("a fault at first", Probe.reading(x, "f = "), "1@2");
        is("the tape", x.cut(0), 0);
        is("a unit without decls stays", x.told(0) + x.told(1), 0);
        is("it is typed", x.infer(), 0);
        String unit = "data T = C {p :: Int}; f x = p _; g = (_, f)";
        is("a unit", Probe.outcome(x, unit), "ok");
        is("the tape", x.cut(0), 0);
        is("tokens", x.told(0), 23);
        is("groups", x.told(5), 2);
        for (String wrong : new String[] {"f = ", "f = @", ")", "f = 1234567890", "f = 1; g"}) {
            is(wrong, Probe.reading(x, wrong).startsWith("1@"), true);
            is("fault", x.fault(), 1);
            is("the tape", x.cut(0), 0);
            is("what the unit before has", x.told(0) + " " + x.told(1) + " " + x.told(2) + " " + x.told(3) + " " + x.told(4), "23 2 1 1 2");
            is("its tokens", x.token(0) + " " + x.token(1) + " " + x.hole(0) + " " + x.hole(1), "10 16 14 19");
            is("it is not typed", x.told(5), 0);
            thrown("type", () -> x.type(0), STATE);
            thrown("holeType", () -> x.holeType(0), STATE);
        }
        is("it is typed again", x.infer(), 0);
        is("fault", x.fault(), 0);
        is("groups", x.told(5), 2);
        is("type", Probe.scheme(x, 1), "(a, b -> Int)");
        is("the same again", Probe.reading(x, unit), "ok");
        is("it is not typed", x.told(5), 0);
        thrown("type", () -> x.type(1), STATE);
        is("read of nothing", x.read(), 0);
        is("a unit without decls", x.told(0) + x.told(1) + x.told(2) + x.told(3) + x.told(4), 0);
        thrown("token", () -> x.token(0), OUTSIDE);
    }

    /** "The unit is typed: 0, or 1 and the token of the fault." "0 if the latest one had none, and before." */
    private static void inferAndFault() {
        TypeInference x = new TypeInference();
        is("before", x.fault(), 0);
        is("infer", x.infer(), 0);
        is("fault", x.fault(), 0);
        is("read", Probe.reading(x, "^"), "1@0");
        is("fault", x.fault(), 1);
        is("infer of the unit before", x.infer(), 0);
        is("fault", x.fault(), 0);
        is("read", Probe.reading(x, "nope = f; f = nope; g = [nope, ()]; h = 'c' f"), "ok");
        is("fault of read", x.fault(), 0);
        is("infer", x.infer(), 21);
        is("fault of infer", x.fault(), 6);
        is("infer again", x.infer(), 21);
        is("fault", x.fault(), 6);
        thrown("type", () -> x.type(0), STATE);
        thrown("setting", () -> x.setting(2, true), ARGUMENT);
        is("fault stays", x.fault(), 6);
        is("read", Probe.reading(x, "f = 'c'"), "ok");
        is("fault", x.fault(), 0);
        is("infer", x.infer(), 0);
        is("infer", x.infer(), 0);
        is("type", Probe.scheme(x, 0), "Char");
        String[] wrong = {"f = )", "data Int = C", "f = 1; f = 2", "f = x", "data T = C Int; f C = 1", "f = 'c' 'c'", "f x = x x",
            "f = add 'c'", "f = eq", "f :: " + Sizes.type(61) + "; f = f"};
        int[] token = {2, 1, 4, 2, 7, 3, 4, 2, 2, 0};
        for (int i = 0; i < wrong.length; i++) {
            is(wrong[i], Probe.outcome(x, wrong[i]), (i + 1) + "@" + token[i]);
            is("fault", x.fault(), i + 1);
            is("no groups", x.told(5), 0);
        }
    }

    /** "A setting (0 NARROW, 1 LOCAL) is on or not: whether it was. IllegalArgument." */
    private static void setting() {
        TypeInference x = new TypeInference();
        for (int what : new int[] {-1, 2, 3, 256, Integer.MIN_VALUE, Integer.MAX_VALUE}) {
            thrown("setting " + what, () -> x.setting(what, false), ARGUMENT);
            thrown("setting " + what, () -> x.setting(what, true), ARGUMENT);
        }
        is("0 is still on", x.setting(0, false), true);
        is("1 is still on", x.setting(1, true), true);
        thrown("setting 2", () -> x.setting(2, true), ARGUMENT);
        is("0 is still off", x.setting(0, false), false);
        is("1 off", x.setting(1, false), true);
        is("0 on", x.setting(0, true), false);
        is("1 is off", x.setting(1, false), false);
        is("0 is on", x.setting(0, true), true);
        String unit = "f = add; g x = let {h y = y} in (h x, h)";
        x.setting(1, true);
        is("a unit", Probe.schemes(x, unit), "Int -> Int -> Int; a -> (a, b -> b)");
        x.setting(0, false);
        x.setting(1, false);
        is("it counts later", Probe.scheme(x, 0) + "; " + Probe.scheme(x, 1), "Int -> Int -> Int; a -> (a, b -> b)");
        is("read keeps it", Probe.schemes(x, unit), "Num a => a -> a -> a; a -> (a, a -> a)");
        is("a fault keeps it", Probe.reading(x, "f ="), "1@2");
        is("infer", x.infer(), 0);
        is("types", Probe.scheme(x, 0) + "; " + Probe.scheme(x, 1), "Num a => a -> a -> a; a -> (a, a -> a)");
        is("another object", Probe.schemes(new TypeInference(), unit), "Int -> Int -> Int; a -> (a, b -> b)");
    }

    /** "5 groups of the unit (0 if it is not typed); NONE for another what." */
    private static void told() {
        TypeInference x = new TypeInference();
        String unit = "data T = A | B {p :: Int} | C T T; data U = D; f :: Int -> Int; f 1 = _; f x = let {k = _a} in x; (g, h) = (f, 'c')";
        is("read", Probe.reading(x, unit), "ok");
        int[] due = {55, 3, 2, 4, 2, 0};
        for (int what = 0; what < due.length; what++) {
            is("told " + what, x.told(what), due[what]);
        }
        for (int what : new int[] {-1, 6, 7, -2, 256, Integer.MIN_VALUE, Integer.MAX_VALUE}) {
            is("told " + what, x.told(what), TypeInference.NONE);
        }
        is("infer", x.infer(), 0);
        is("groups", x.told(5), 1);
        is("the others", x.told(0) + " " + x.told(1) + " " + x.told(2) + " " + x.told(3) + " " + x.told(4), "55 3 2 4 2");
        is("fault", Probe.outcome(x, unit + "; k = 'c' 'c'"), "6@59");
        is("not typed", x.told(5), 0);
        is("LOWs of a unit with a fault", x.told(1), 4);
        is("read", Probe.reading(x, unit), "ok");
        is("not typed", x.told(5), 0);
    }

    private static final String UNIT = "data T = C {p :: Int}; f x = [p x, _]; (g, h) = (_, 'c'); k :: a -> a; k x = x";

    /** The calls of a number, on a unit that is not typed, one with a fault, and one that is typed. */
    private static void numbers() {
        TypeInference x = new TypeInference();
        is("read", Probe.reading(x, UNIT), "ok");
        taken("token", x::token, 4, OUTSIDE);
        taken("hole", x::hole, 2, OUTSIDE);
        untyped(x, 4, 2);
        is("tokens", x.token(0) + " " + x.token(1) + " " + x.token(2) + " " + x.token(3), "10 21 23 38");
        is("holes", x.hole(0) + " " + x.hole(1), "17 27");
        is("infer", x.infer(), 0);
        taken("token", x::token, 4, OUTSIDE);
        taken("type", x::type, 4, OUTSIDE);
        taken("group", x::group, 4, OUTSIDE);
        taken("hole", x::hole, 2, OUTSIDE);
        taken("holeType", x::holeType, 2, OUTSIDE);
        taken("fits", x::fits, 2, OUTSIDE);
        is("groups", x.group(0) + " " + x.group(1) + " " + x.group(2) + " " + x.group(3), "0 1 1 -1");
        for (int hole = 0; hole < 2; hole++) {
            int k = hole;
            is("how many fit", x.fits(k), 1);
            is("what fits", x.fit(k, 0), 21);
            taken("fit", i -> x.fit(k, i), 1, OUTSIDE);
        }
        taken("fit of hole", k -> x.fit(k, 0), 2, OUTSIDE);
        TypeInference y = new TypeInference();
        is("a hole that nothing fits", Probe.outcome(y, "f x = case [_, (x, ())] of {_ -> 'c'}"), "ok");
        is("how many fit", y.fits(0), 0);
        taken("fit", i -> y.fit(0, i), 0, OUTSIDE);
        int length = x.type(0);
        is("bytes", length, 10);
        taken("octet", x::octet, length, OUTSIDE);
        is("a fault", Probe.outcome(x, UNIT + "; z = 'c' 'c'"), "6@46");
        untyped(x, 5, 2);
        taken("octet", x::octet, length, OUTSIDE);
    }

    /** IndexOutOfBounds ahead of IllegalState, of each call that names both. */
    private static void untyped(TypeInference x, int lows, int holes) {
        for (int i = 0; i < lows; i++) {
            int k = i;
            thrown("type", () -> x.type(k), STATE);
            thrown("group", () -> x.group(k), STATE);
            thrown("covers", () -> x.covers(k), STATE);
        }
        for (int i = 0; i < holes; i++) {
            int k = i;
            thrown("holeType", () -> x.holeType(k), STATE);
            thrown("fits", () -> x.fits(k), STATE);
            for (int far : new int[] {-1, 0, 1, Integer.MIN_VALUE, Integer.MAX_VALUE}) {
                thrown("fit", () -> x.fit(k, far), STATE);
            }
        }
        for (int i : new int[] {-1, lows, Integer.MIN_VALUE, Integer.MAX_VALUE}) {
            thrown("type", () -> x.type(i), OUTSIDE);
            thrown("group", () -> x.group(i), OUTSIDE);
            thrown("covers", () -> x.covers(i), OUTSIDE);
        }
        for (int k : new int[] {-1, holes, Integer.MIN_VALUE, Integer.MAX_VALUE}) {
            thrown("holeType", () -> x.holeType(k), OUTSIDE);
            thrown("fits", () -> x.fits(k), OUTSIDE);
            thrown("fit", () -> x.fit(k, 0), OUTSIDE);
            thrown("fit", () -> x.fit(k, -1), OUTSIDE);
        }
    }

    /** "IndexOutOfBounds; IllegalState; IllegalArgument: the TAPE is none"; the TAPE stays, and so does all else. */
    private static void covers() {
        TypeInference x = new TypeInference();
        is("read", Probe.reading(x, UNIT), "ok");
        Probe.tape(x, "(");
        thrown("no such LOW", () -> x.covers(4), OUTSIDE);
        thrown("not typed", () -> x.covers(0), STATE);
        is("infer", x.infer(), 0);
        int length = x.type(3);
        thrown("no such LOW", () -> x.covers(4), OUTSIDE);
        thrown("no such LOW", () -> x.covers(-1), OUTSIDE);
        thrown("no given type", () -> x.covers(3), ARGUMENT);
        is("the tape", x.cut(0), 1);
        x.cut(1);
        thrown("an empty tape", () -> x.covers(3), ARGUMENT);
        Probe.tape(x, "T -> T");
        is("covers 3", x.covers(3), true);
        is("covers 0", x.covers(0), false);
        is("covers 2", x.covers(2), false);
        is("the tape", x.cut(0), 6);
        Probe.tape(x, " T");
        thrown("wrong", () -> x.covers(3), ARGUMENT);
        is("the tape", x.cut(2), 6);
        is("covers 3", x.covers(3), true);
        is("written before", Probe.written(x, length), "a -> a");
        is("types", Probe.scheme(x, 0) + "; " + Probe.scheme(x, 3), "T -> [Int]; a -> a");
        is("the tape is no unit", x.read(), 2);
        is("the unit before", x.told(1), 4);
        thrown("not typed", () -> x.covers(3), STATE);
    }

    /** "Byte i of what was WRITTEN latest." */
    private static void octet() {
        TypeInference x = new TypeInference();
        taken("octet", x::octet, 0, OUTSIDE);
        is("unit", Probe.outcome(x, UNIT), "ok");
        taken("octet", x::octet, 0, OUTSIDE);
        is("type", x.type(2), 4);
        taken("octet", x::octet, 4, OUTSIDE);
        is("bytes", x.octet(0) + " " + x.octet(1) + " " + x.octet(2) + " " + x.octet(3), "67 104 97 114");
        is("holeType", x.holeType(1), 1);
        taken("octet", x::octet, 1, OUTSIDE);
        is("byte", x.octet(0), 97);
        is("type", x.type(3), 6);
        thrown("type", () -> x.type(4), OUTSIDE);
        thrown("holeType", () -> x.holeType(2), OUTSIDE);
        taken("octet", x::octet, 6, OUTSIDE);
        is("read", x.read(), 0);
        taken("octet", x::octet, 6, OUTSIDE);
        is("unit", Probe.outcome(x, UNIT), "ok");
        is("written before", Probe.written(x, 6), "a -> a");
    }

    /** "A call that throws changes nothing." */
    private static void refusedCalls() {
        TypeInference x = new TypeInference();
        is("unit", Probe.outcome(x, UNIT), "ok");
        x.setting(1, false);
        x.type(1);
        Probe.tape(x, "Eq a => Foo a" + " ".repeat(1470));
        String before = answers(x);
        Probe.Call[] calls = {() -> x.feed(1, 2, 3, 4, 5), () -> x.cut(-1), () -> x.cut(1484), () -> x.setting(2, true),
            () -> x.setting(-1, true), () -> x.token(4), () -> x.type(4), () -> x.type(-1), () -> x.group(4), () -> x.hole(2),
            () -> x.holeType(2), () -> x.holeType(-1), () -> x.fits(2), () -> x.fit(1, 99), () -> x.fit(1, -1), () -> x.fit(2, 0),
            () -> x.covers(4), () -> x.covers(0), () -> x.octet(1), () -> x.octet(-1)};
        for (int i = 0; i < calls.length; i++) {
            is("call " + i, Probe.thrown(calls[i]).endsWith("Exception"), true);
            is("behind call " + i, answers(x), before);
        }
        is("setting 0", x.setting(0, true), true);
        is("setting 1", x.setting(1, true), false);
        is("types", Probe.scheme(x, 0) + "; " + Probe.scheme(x, 1) + "; " + Probe.scheme(x, 2) + "; " + Probe.scheme(x, 3),
            "T -> [Int]; a; Char; a -> a");
    }

    /** "An object is used for at most 512 calls": the last of them are as the first. */
    private static void manyCalls() {
        TypeInference x = new TypeInference();
        for (int i = 0; i < 64; i++) {
            x.feed(0x66207820, 0x3d206571, 0x20782020, 0x20202020, 0x20202020);
            is("read", x.read(), 0);
            is("infer", x.infer(), 0);
            is("type", x.type(0), 22);
            is("octet", x.octet(21), (int) 'l');
            is("told", x.told(5), 1);
            x.feed(0x66207820, 0x3d20295d, 0x20782020, 0x20202020, 0x20202020);
            is("read", x.read(), 4);
        }
    }

    public static void main(String[] args) {
        newObject();
        feed();
        cut();
        read();
        inferAndFault();
        setting();
        told();
        numbers();
        covers();
        octet();
        refusedCalls();
        manyCalls();
        Probe.end();
    }
}
