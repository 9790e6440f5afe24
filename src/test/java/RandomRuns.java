import java.lang.reflect.InvocationTargetException;
import java.lang.reflect.Method;
import java.util.ArrayList;
import java.util.Arrays;
import java.util.HashMap;
import java.util.List;
import java.util.Map;
import java.util.Random;

/**
 * Runs of calls from fixed seeds on a Weftpage and on a PlainModel; every answer and every exception
 * has to be the same. Arguments: how many runs, and the first seed.
 */
public final class RandomRuns {
    private static final Map<String, Method> OF_PAGE = methods(Weftpage.class);
    private static final Map<String, Method> OF_MODEL = methods(PlainModel.class);
    private static final String LETTERS = "abcdefghijklmnopqrstuvwxyz <>/=\"&:#";
    private static final String[] PIECES = {"a", "", "b c", "<b>", "</b>", "<a h=\"", "\">", "<p c=\"", "<s>", "</s>", "<", ">", "\"", "/", "<s", "h=\"", "<<", "&:"};
    private static final String[] TEXTS = {"", "a", "j:a", "j:", "a<b>&\"c\"", "/a b:c#", "=", "<<", "\"", "hello you", "J"};

    private static final int CALLS = 512;

    static final Map<String, Integer> SEEN = new HashMap<>();

    private final Random random;
    private final Weftpage page = new Weftpage();
    private final PlainModel model = new PlainModel();
    private final List<String> log = new ArrayList<>();
    private final List<Integer> values = new ArrayList<>();
    private final List<Integer> parts = new ArrayList<>();
    private int templates;
    private int extending;
    private boolean failed;

    private RandomRuns(long seed) {
        random = new Random(seed);
    }

    private static Map<String, Method> methods(Class<?> of) {
        Map<String, Method> found = new HashMap<>();
        for (Method m : of.getDeclaredMethods()) {
            if (java.lang.reflect.Modifier.isPublic(m.getModifiers())) {
                m.setAccessible(true);
                found.put(m.getName(), m);
            }
        }
        return found;
    }

    private static Object answer(Object on, Method m, Object... args) {
        try {
            return m.invoke(on, args);
        } catch (InvocationTargetException e) {
            Throwable t = e.getCause();
            String thrower = t.getStackTrace().length == 0 ? "" : t.getStackTrace()[0].getClassName();
            boolean own = thrower.startsWith("Weftpage") || thrower.startsWith("PlainModel");
            return "throws " + t.getClass().getName() + (own ? "" : " of the library");
        } catch (IllegalAccessException e) {
            throw new IllegalStateException(e);
        }
    }

    /** Answers null if the call was refused, or is one more than an object is used for. */
    private Object call(String name, Object... args) {
        if (log.size() >= CALLS) {
            return null;
        }
        Object got = answer(page, OF_PAGE.get(name), args);
        Object due = answer(model, OF_MODEL.get(name), args);
        log.add(name + Arrays.toString(args) + " -> " + due);
        String kind = name + " " + (due instanceof String || due instanceof Character ? due : "");
        SEEN.merge(kind, 1, Integer::sum);
        if (!got.equals(due) && !failed) {
            failed = true;
            log.add("   BUT ANSWERED " + got);
        }
        return due instanceof String ? null : due;
    }

    private int pick(int n) {
        return random.nextInt(n);
    }

    private boolean chance(int percent) {
        return pick(100) < percent;
    }

    private void typeAll(String text) {
        for (char c : text.toCharArray()) {
            call("type", c);
        }
    }

    private int near(List<Integer> from) {
        if (chance(1)) {
            return pick(110) - 3;
        }
        if (from.isEmpty()) {
            return 0;
        }
        int back = chance(60) ? Math.min(from.size(), 5) : from.size();
        return from.get(from.size() - 1 - pick(back));
    }

    private int keep(List<Integer> in, Object node) {
        if (node == null) {
            return 0;
        }
        in.add((Integer) node);
        return (Integer) node;
    }

    private int newPiece(String text) {
        typeAll(text);
        return keep(parts, call("piece"));
    }

    private int aField() {
        return chance(1) ? pick(9) - 2 : pick(chance(70) ? 3 : 6);
    }

    private void newValue() {
        switch (pick(10)) {
            case 0: case 1: case 2: case 3:
                keep(values, call("field", aField()));
                break;
            case 4: case 5:
                keep(values, call("item", chance(2) ? 'x' : "knti".charAt(pick(4))));
                break;
            case 6:
                keep(values, call("argument"));
                break;
            case 7:
                keep(values, call("number", chance(2) ? 1000 : pick(4) - 1));
                break;
            default:
                keep(values, call("filter", chance(2) ? 'x' : "lucd+p".charAt(pick(6)), near(values), chance(2) ? 100 : pick(4)));
                break;
        }
    }

    private void wrapped(String before, int part, String behind) {
        int a = newPiece(before);
        int b = keep(parts, call("row", a, part));
        int c = newPiece(behind);
        keep(parts, call("row", b, c));
    }

    private void newPart() {
        int orNone = chance(50) ? -1 : near(parts);
        switch (pick(24)) {
            case 0: case 1:
                newPiece(chance(70) ? "abcxyz".substring(pick(6)) : PIECES[pick(PIECES.length)]);
                break;
            case 2: case 3: case 4:
                keep(parts, call("hole", near(values)));
                break;
            case 5: case 6: case 7: case 8:
                keep(parts, call("row", near(parts), near(parts)));
                break;
            case 9: case 10:
                keep(parts, call("choice", near(values), near(parts), orNone));
                break;
            case 11: case 12:
                keep(parts, call("loop", near(values), near(parts), orNone));
                break;
            case 13: case 14: case 15:
                keep(parts, call("partial", templates == 0 ? 0 : pick(templates), chance(40) ? -1 : near(values), orNone));
                break;
            case 16:
                keep(parts, call("slot"));
                break;
            case 17: case 18:
                keep(parts, call("block", pick(chance(95) ? 2 : 5), near(parts)));
                break;
            case 19:
                keep(parts, call("up"));
                break;
            case 20:
                keep(parts, call("guard", near(parts), near(parts)));
                break;
            case 21:
                keep(parts, call("later", pick(chance(95) ? 2 : 5), near(parts)));
                break;
            default:
                wrapSome();
                break;
        }
    }

    private void wrapSome() {
        int part = near(parts);
        switch (pick(4)) {
            case 0:
                wrapped("<a h=\"", part, "\">");
                break;
            case 1:
                wrapped("<a b=\"", part, "\">");
                break;
            case 2:
                wrapped("<s>", part, "</s>");
                break;
            default:
                wrapped("<b>", part, "</b>");
                break;
        }
    }

    private void newTemplate() {
        if (templates > 0 && chance(45)) {
            if (call("extend", pick(templates + (chance(3) ? 1 : 0))) != null) {
                templates++;
                extending = templates;
            }
        } else if (call("template", near(parts)) != null) {
            templates++;
        }
    }

    private void override() {
        if (templates > 0) {
            int t = chance(70) && extending > 0 ? extending - 1 : pick(templates);
            call("override", t, pick(chance(95) ? 2 : 5), near(parts));
        }
    }

    private void data() {
        int f = aField();
        switch (pick(12)) {
            case 0: case 1:
                call("setNumber", f, chance(3) ? -1000 : pick(5) - 2);
                break;
            case 2: case 3:
                typeAll(TEXTS[pick(TEXTS.length)]);
                call("setText", f);
                break;
            case 4:
                call("setList", f);
                fillList(f);
                break;
            case 5:
                call("clear", f);
                break;
            case 6: case 7:
                if (chance(70)) {
                    typeAll(TEXTS[pick(TEXTS.length)]);
                }
                call("addItem", f, chance(3) ? 100 : pick(12), pick(5) - 2);
                break;
            case 8:
                call("setItem", f, pick(6), pick(3));
                break;
            case 9:
                call("takeItem", f, pick(5) - (chance(5) ? 1 : 0));
                break;
            default:
                call("moveItem", f, pick(6), pick(6));
                break;
        }
        call("has", f);
        call("items", f);
    }

    private void fillList(int f) {
        int first = pick(10);
        for (int i = pick(9); i > 0; i--) {
            if (chance(40)) {
                typeAll(TEXTS[pick(TEXTS.length)]);
            }
            call("addItem", f, (first + i * 7) % 20, pick(3));
        }
    }

    // Runs that are mostly right: each node is made for the place where it is to stand

    private int typedValue(boolean inLoop, boolean inPartial) {
        int kind = pick(10);
        if (inLoop && kind < 5) {
            return keep(values, call("item", "kntit".charAt(pick(5))));
        }
        if (inPartial && kind < 7) {
            return keep(values, call("argument"));
        }
        if (kind == 7) {
            int list = keep(values, call("field", pick(2)));
            return keep(values, call("filter", 'l', list, 0));
        }
        if (kind == 8) {
            int number = keep(values, call("field", 3));
            return keep(values, call("filter", chance(50) ? '+' : 'p', number, pick(4)));
        }
        if (kind == 9) {
            int text = keep(values, call("field", 2));
            return keep(values, call("filter", chance(50) ? 'c' : 'u', text, pick(4)));
        }
        int any = keep(values, call("field", 2 + pick(4)));
        return chance(20) ? keep(values, call("filter", 'd', any, pick(3))) : any;
    }

    private int grown(int depth, boolean inText, boolean inLoop, boolean inPartial) {
        if (depth <= 0 || chance(25)) {
            return chance(40) ? newPiece("abcxyz".substring(pick(6))) : keep(parts, call("hole", typedValue(inLoop, inPartial)));
        }
        int d = depth - 1;
        switch (pick(13)) {
            case 0: case 1:
                return keep(parts, call("row", grown(d, inText, inLoop, inPartial), grown(d, inText, inLoop, inPartial)));
            case 2: {
                int yes = grown(d, inText, inLoop, inPartial);
                int no = chance(50) ? -1 : grown(d, inText, inLoop, inPartial);
                return keep(parts, call("choice", typedValue(inLoop, inPartial), yes, no));
            }
            case 3: case 4: case 5: {
                int body = grown(d, inText, true, inPartial);
                int none = chance(50) ? -1 : grown(d, inText, inLoop, inPartial);
                int list = keep(values, call("field", pick(2)));
                return keep(parts, call("loop", list, body, none));
            }
            case 6: case 7: {
                if (templates == 0) {
                    return keep(parts, call("slot"));
                }
                int fill = chance(25) ? -1 : grown(d, inText, inLoop, inPartial);
                int argument = chance(25) ? -1 : chance(30) ? keep(values, call("field", pick(2))) : typedValue(inLoop, inPartial);
                return keep(parts, call("partial", pick(templates), argument, fill));
            }
            case 8:
                return keep(parts, call(inPartial || chance(30) ? "slot" : "up"));
            case 9:
                return keep(parts, call("block", pick(3), grown(d, inText, inLoop, inPartial)));
            case 10:
                return keep(parts, call("guard", grown(d, inText, inLoop || chance(30), inPartial || chance(30)), grown(d, inText, inLoop, inPartial)));
            case 11:
                if (inText) {
                    return keep(parts, call("later", pick(3), grown(d, true, inLoop, inPartial)));
                }
                return keep(parts, call("slot"));
            default: {
                String[] before = {"<a h=\"", "<a b=\"", "<s>", "<b>"};
                String[] behind = {"\">", "\">", "</s>", "</b>"};
                int w = inText ? pick(4) : 3;
                int inner = grown(d, inText && w == 3, inLoop, inPartial);
                wrapped(inText ? before[w] : "a", inner, inText ? behind[w] : "b");
                return parts.get(parts.size() - 1);
            }
        }
    }

    private void grow() {
        int components = pick(3);
        for (int i = 0; i < components; i++) {
            if (call("template", grown(2, false, false, true)) != null) {
                templates++;
            }
        }
        int page = grown(3 + pick(2), true, false, false);
        for (int i = 0; i < 3; i++) {
            int slotted = chance(50) ? keep(parts, call("block", i, grown(1, true, false, false))) : grown(2, true, false, false);
            page = keep(parts, call("row", page, slotted));
        }
        for (int i = pick(chance(10) ? 9 : 3); i > 0; i--) {
            page = keep(parts, call("row", page, chance(50) ? page : grown(1, true, false, false)));
        }
        if (call("template", page) != null) {
            templates++;
        }
        while (chance(70) && templates < 8) {
            if (call("extend", chance(80) ? templates - 1 : pick(templates)) != null) {
                templates++;
                for (int i = 1 + pick(3); i > 0; i--) {
                    int node = grown(2, true, false, false);
                    if (chance(60)) {
                        node = keep(parts, call("row", node, keep(parts, call("up"))));
                    }
                    call("override", templates - 1, pick(3), node);
                }
            } else {
                break;
            }
        }
    }

    private void typedData() {
        int list = pick(2);
        switch (pick(16)) {
            case 0: case 1: case 2:
                call("moveItem", list, pick(5), pick(5));
                break;
            case 3: case 4:
                call("takeItem", list, pick(4));
                break;
            case 5: case 6: case 7:
                typeAll(TEXTS[pick(TEXTS.length)]);
                call("addItem", list, pick(10), pick(3));
                break;
            case 8:
                call("setItem", list, pick(5), pick(3));
                break;
            case 9:
                call("setList", list);
                fillList(list);
                break;
            case 10: case 11:
                typeAll(TEXTS[pick(TEXTS.length)]);
                call("setText", 2);
                break;
            case 12: case 13:
                call("setNumber", 3, pick(4) - 1);
                break;
            case 14:
                call(chance(50) ? "clear" : "setText", 4 + pick(2));
                break;
            default:
                data();
                break;
        }
    }

    private void growingRun() {
        call("setList", 0);
        fillList(0);
        call("setList", 1);
        fillList(1);
        call("setText", 2);
        call("setNumber", 3, 2);
        grow();
        for (int t = 0; t < templates; t++) {
            askTemplate(t);
        }
        int rounds = 5 + pick(30);
        for (int i = 0; i < rounds && !failed; i++) {
            if (i == 0 || chance(10)) {
                call("make", chance(60) ? templates - 1 : pick(templates + 1));
            }
            for (int k = pick(5); k > 0; k--) {
                typedData();
            }
            if (chance(4)) {
                override();
            }
            if (chance(8)) {
                call("comes", pick(3));
            }
            call("refresh");
            askOutput();
        }
    }

    private void askTemplate(int t) {
        call("check", t);
        call("wrong", t);
        if (chance(30)) {
            for (int i = 0; i < 8; i++) {
                call("around", t, chance(85) ? near(parts) : pick(values.size() + parts.size() + 2) - 1);
            }
            for (int f = -1; f <= 6; f++) {
                call("readers", t, f);
            }
        }
    }

    private void askOutput() {
        Object length = call("length");
        int n = length == null ? 0 : (Integer) length;
        call("letterAt", chance(50) ? -1 : n);
        call("writerOf", chance(50) ? -1 : n);
        for (int i = 0; i < Math.min(n, 6); i++) {
            int place = n <= 6 ? i : pick(n);
            call("letterAt", place);
            call("writerOf", place);
        }
        Object size = call("changes");
        int changes = size == null ? 0 : (Integer) size;
        for (int i = chance(20) ? -1 : 0; i < changes + (chance(20) ? 1 : 0); i++) {
            call("changeAt", i);
            call("changedNode", i);
            call("changedKey", i);
        }
        call("fault");
        call("written");
        call("holeShare");
        call("meanChanges");
        call("isSound");
    }

    private void run() {
        if (chance(3)) {
            askTemplate(0);
            askOutput();
            call("refresh");
        }
        newPiece("a");
        newValue();
        int builds = 10 + pick(70);
        for (int i = 0; i < builds && !failed; i++) {
            if (chance(35)) {
                newValue();
            } else {
                newPart();
            }
            if (chance(8)) {
                newTemplate();
            }
            if (chance(8)) {
                override();
            }
        }
        newTemplate();
        call("nodes");
        for (int i = pick(12); i > 0; i--) {
            data();
        }
        for (int t = 0; t <= templates; t++) {
            askTemplate(t);
        }
        int rounds = 5 + pick(40);
        for (int i = 0; i < rounds && !failed; i++) {
            round();
        }
    }

    private void round() {
        if (chance(35)) {
            call("make", chance(2) ? -1 : pick(templates + 1));
        }
        for (int i = pick(4); i > 0; i--) {
            data();
        }
        if (chance(5)) {
            override();
        }
        if (chance(8)) {
            call("comes", pick(chance(90) ? 2 : 5));
        }
        if (chance(5)) {
            newPart();
        }
        call("refresh");
        askOutput();
    }

    private void showLog(long seed) {
        System.out.println("run of seed " + seed + ":");
        int from = Math.max(0, log.size() - 400);
        for (String line : log.subList(from, log.size())) {
            System.out.println("  " + line);
            if (line.startsWith("   BUT")) {
                break;
            }
        }
    }

    /** Makes so many runs; answers how many of them failed. */
    static int count(int runs, long first) {
        int failures = 0;
        for (long seed = first; seed < first + runs; seed++) {
            RandomRuns run = new RandomRuns(seed);
            if (seed % 3 == 0) {
                run.run();
            } else {
                run.growingRun();
            }
            if (run.failed) {
                failures++;
                if (failures <= 3) {
                    run.showLog(seed);
                }
            }
        }
        return failures;
    }

    public static void main(String[] args) {
        int runs = args.length > 0 ? Integer.parseInt(args[0]) : 2000;
        long first = args.length > 1 ? Long.parseLong(args[1]) : 1;
        int failures = count(runs, first);
        if (args.length > 2) {
            SEEN.forEach((k, v) -> System.out.println(k + ": " + v));
        }
        System.out.println("RandomRuns: " + (runs - failures) + " passed, " + failures + " failed");
        if (failures > 0) {
            System.exit(1);
        }
    }
}
