import java.util.NoSuchElementException;

/** What the tests share: how they ask, and how they make what they ask about. */
class Checks {
    static final Class<?> INDEX = IndexOutOfBoundsException.class;
    static final Class<?> ARGUMENT = IllegalArgumentException.class;
    static final Class<?> STATE = IllegalStateException.class;
    static final Class<?> UNSUPPORTED = UnsupportedOperationException.class;
    static final Class<?> ELEMENT = NoSuchElementException.class;
    static final Class<?> ARITHMETIC = ArithmeticException.class;

    static int passed;
    static int failed;
    /** What the test that runs is about. */
    static String about = "";

    interface Call {
        Object run();
    }

    interface Test {
        void run();
    }

    /** Runs one test; what it throws itself is a failure, and the others go on. */
    static void test(String sentence, Test test) {
        about = sentence;
        try {
            test.run();
        } catch (RuntimeException e) {
            failed++;
            System.out.println(about + ": threw " + e + " at " + place(e));
        }
    }

    static void is(Object got, Object want) {
        if (got.equals(want)) {
            passed++;
            return;
        }
        failed++;
        System.out.println(about + ", " + place(new Throwable()) + ": answered " + got + ", due is " + want);
    }

    private static String place(Throwable from) {
        for (StackTraceElement e : from.getStackTrace()) {
            if (!e.getClassName().equals("Checks") && !e.getClassName().startsWith("Weftpage")) {
                return e.getClassName() + " line " + e.getLineNumber();
            }
        }
        return "";
    }

    /** Holds that a call throws this, and that the program's own 'throw' does. */
    static void thrown(Class<?> want, Call call) {
        Object got;
        try {
            got = call.run();
        } catch (RuntimeException e) {
            got = isOwn(e) ? e.getClass() : "an exception of the library";
        }
        is(got, want);
    }

    static boolean isOwn(RuntimeException e) {
        return e.getStackTrace().length > 0 && e.getStackTrace()[0].getClassName().startsWith("Weftpage");
    }

    /** Tells how many passed; ends with exit code 1 if one failed. */
    static void end(String name) {
        System.out.println(name + ": " + passed + " passed, " + failed + " failed");
        if (failed > 0) {
            System.exit(1);
        }
    }

    // Helpers that make what the tests need

    static void type(Weftpage x, String text) {
        for (char c : text.toCharArray()) {
            x.type(c);
        }
    }

    static int piece(Weftpage x, String text) {
        type(x, text);
        return x.piece();
    }

    static void setText(Weftpage x, int field, String text) {
        type(x, text);
        x.setText(field);
    }

    static int add(Weftpage x, int field, int key, int number, String text) {
        type(x, text);
        return x.addItem(field, key, number);
    }

    static int rows(Weftpage x, int... parts) {
        int row = parts[0];
        for (int i = 1; i < parts.length; i++) {
            row = x.row(row, parts[i]);
        }
        return row;
    }

    static int hole(Weftpage x, int field) {
        return x.hole(x.field(field));
    }

    static String text(Weftpage x) {
        StringBuilder b = new StringBuilder();
        int length = x.length();
        for (int i = 0; i < length; i++) {
            b.append(x.letterAt(i));
        }
        return b.toString();
    }

    /** Of a long output, for which 512 calls don't do: its length, and the letters at both ends. */
    static String ends(Weftpage x) {
        int length = x.length();
        StringBuilder b = new StringBuilder().append(length).append(' ');
        for (int i = 0; i < 20; i++) {
            b.append(x.letterAt(i));
        }
        for (int i = length - 20; i < length; i++) {
            b.append(x.letterAt(i));
        }
        return b.toString();
    }

    /** The same of a text. */
    static String ends(String text) {
        int length = text.length();
        return length + " " + text.substring(0, 20) + text.substring(length - 20);
    }

    static String made(Weftpage x, int node) {
        int t = x.template(node);
        return made2(x, t);
    }

    static String made2(Weftpage x, int template) {
        char answer = x.make(template);
        return answer == 'o' ? text(x) : "fault " + x.fault();
    }

    static String patch(Weftpage x) {
        char answer = x.refresh();
        if (answer != 'o') {
            return "fault " + x.fault();
        }
        StringBuilder b = new StringBuilder();
        for (int i = 0; i < x.changes(); i++) {
            b.append(i == 0 ? "" : " ").append(x.changeAt(i)).append(x.changedNode(i));
            if (x.changeAt(i) != 'r') {
                b.append(',').append(x.changedKey(i));
            }
        }
        is(x.isSound(), true);
        return b.toString();
    }

    /** 'o', or what is wrong and the node that is. */
    static String checked(Weftpage x, int template) {
        char answer = x.check(template);
        return answer == 'o' ? "o" : "" + answer + x.wrong(template);
    }

    /** What a hole of a text gives between these two pieces. */
    static String between(String before, String text, String behind) {
        Weftpage x = new Weftpage();
        setText(x, 0, text);
        String all = made(x, rows(x, piece(x, before), hole(x, 0), piece(x, behind)));
        is(x.isSound(), true);
        return all;
    }

    static String inText(String text) {
        return between("", text, "");
    }

    static String inQuotes(String text) {
        String all = between("<a b=\"", text, "\">");
        return all.substring(6, all.length() - 2);
    }

    static String inAddress(String text) {
        String all = between("<a h=\"", text, "\">");
        return all.substring(6, all.length() - 2);
    }

    static String inScript(String text) {
        String all = between("<s>", text, "</s>");
        return all.substring(3, all.length() - 4);
    }

    static void list(Weftpage x, int field, int... keys) {
        x.setList(field);
        for (int key : keys) {
            x.addItem(field, key, 0);
        }
    }
}
