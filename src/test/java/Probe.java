import java.util.regex.Pattern;

/** What the tests share: a text onto the tape, what was written back from it, and a count of what was wrong. */
final class Probe {
    private static final Pattern TOKEN =
        Pattern.compile("'[^']'|[A-Za-z_][A-Za-z0-9_]*|[0-9]+|->|::|=>|[=|;{}()\\[\\],:\\\\]");
    private static int wrong = 0;
    private static int asked = 0;

    private Probe() {
    }

    static void tape(TypeInference x, String text) {
        int length = text.length();
        StringBuilder padded = new StringBuilder(text);
        while (padded.length() % 20 != 0) {
            padded.append(' ');
        }
        for (int i = 0; i < padded.length(); i += 20) {
            x.feed(four(padded, i), four(padded, i + 4), four(padded, i + 8), four(padded, i + 12), four(padded, i + 16));
        }
        x.cut(padded.length() - length);
    }

    private static int four(CharSequence s, int i) {
        return (s.charAt(i) & 255) << 24 | (s.charAt(i + 1) & 255) << 16 | (s.charAt(i + 2) & 255) << 8 | s.charAt(i + 3) & 255;
    }

    static String written(TypeInference x, int length) {
        StringBuilder s = new StringBuilder();
        for (int i = 0; i < length; i++) {
            s.append((char) x.octet(i));
        }
        try {
            x.octet(length);
            s.append(" AND MORE");
        } catch (IndexOutOfBoundsException expected) {
            // What was written ends here, as it should.
        }
        return s.toString();
    }

    static String scheme(TypeInference x, int i) {
        return written(x, x.type(i));
    }

    static String holeScheme(TypeInference x, int k) {
        return written(x, x.holeType(k));
    }

    /** "ok", or the fault's number, "@" and its token, of reading and typing a text. */
    static String outcome(TypeInference x, String text) {
        tape(x, text);
        int token = x.read();
        if (token == 0) {
            token = x.infer();
        }
        return token == 0 ? x.fault() == 0 ? "ok" : "fault without token" : x.fault() + "@" + (token - 1);
    }

    /** "ok", or "1@" and the token, of reading a text alone. */
    static String reading(TypeInference x, String text) {
        tape(x, text);
        int token = x.read();
        return token == 0 ? "ok" : x.fault() + "@" + (token - 1);
    }

    /** How many tokens stand ahead of the ^ in a text; it marks the token where a fault is due. */
    static int marked(String text) {
        return (int) TOKEN.matcher(text.substring(0, text.indexOf('^'))).results().count();
    }

    static String unmarked(String text) {
        return text.replace("^", "");
    }

    /** A text that is read and then has this fault at its ^, with the settings as they are. */
    static void fault(TypeInference x, int number, String text) {
        due(text, outcome(x, unmarked(text)), number + "@" + marked(text));
    }

    static void fault(int number, String text) {
        fault(new TypeInference(), number, text);
    }

    static void right(String text) {
        due(text, outcome(new TypeInference(), text), "ok");
    }

    /** The outcome, and behind it the schemes of all LOWs that the unit declares. */
    static String schemes(TypeInference x, String text) {
        String outcome = outcome(x, text);
        if (!outcome.equals("ok")) {
            return outcome;
        }
        StringBuilder s = new StringBuilder();
        for (int i = 0; i < x.told(1); i++) {
            s.append(i > 0 ? "; " : "").append(scheme(x, i));
        }
        return s.toString();
    }

    static String fitting(TypeInference x, int k) {
        StringBuilder s = new StringBuilder();
        int count = x.fits(k);
        for (int i = 0; i < count; i++) {
            s.append(i > 0 ? " " : "").append(x.fit(k, i));
        }
        return s.toString();
    }

    static void due(String what, Object got, Object due) {
        asked++;
        if (!String.valueOf(got).equals(String.valueOf(due))) {
            wrong++;
            System.out.println(what + " answered " + got + ", due is " + due);
        }
    }

    /** A call whose exception is asked for. */
    interface Call {
        Object go();
    }

    static String thrown(Call call) {
        try {
            return String.valueOf(call.go());
        } catch (RuntimeException e) {
            return e.getClass().getSimpleName();
        }
    }

    static void end() {
        System.out.println(asked + " asked, " + wrong + " wrong");
        System.exit(wrong == 0 && asked > 0 ? 0 : 1);
    }
}
