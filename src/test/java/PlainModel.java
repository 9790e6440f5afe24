import java.util.ArrayList;
import java.util.Arrays;
import java.util.List;
import java.util.NoSuchElementException;

/**
 * The document once more, written as plainly as it can be: by recursion, with trees and texts that
 * are thrown away. RandomRuns holds Weftpage against it.
 */
public final class PlainModel {
    private static final String LETTERS = "abcdefghijklmnopqrstuvwxyz <>/=\"&:#";

    static final class It {
        int key;
        int number;
        String text;
    }

    static final class Nd {
        char kind;
        boolean value;
        int n;
        char letter;
        int of = -1;
        int a = -1;
        int b = -1;
        String text = "";
    }

    static final class Tm {
        int node = -1;
        int base = -1;
        int[] over = {-1, -1, -1, -1};
    }

    static final class Env {
        int template;
        boolean inPartial;
        Object argument;
        int argumentField = -1;
        int fill = -1;
        Env caller;
        List<It> items;
        int place;
        int upTemplate = -1;
        int upBlock = -1;

        Env copy() {
            Env e = new Env();
            e.template = template;
            e.inPartial = inPartial;
            e.argument = argument;
            e.argumentField = argumentField;
            e.fill = fill;
            e.caller = caller;
            e.items = items;
            e.place = place;
            e.upTemplate = upTemplate;
            e.upBlock = upBlock;
            return e;
        }
    }

    static final class Wrong extends RuntimeException {
        final char kind;
        final int node;

        Wrong(char kind, int node) {
            this.kind = kind;
            this.node = node;
        }
    }

    static final class Fault extends RuntimeException {
        final char kind;

        Fault(char kind) {
            this.kind = kind;
        }
    }

    static final class Done {
        int node;
        String way = "";
        int key = -1;
        String out = "";
        List<Done> parts = new ArrayList<>();
    }

    static final class Change {
        char kind;
        int node;
        int key;
    }

    private final Object[] fields = new Object[6];
    private String row = "";
    private final boolean[] come = new boolean[4];
    private final List<Nd> nodes = new ArrayList<>();
    private final List<Tm> templates = new ArrayList<>();
    private int present = -1;
    private Done output;
    private boolean overridden;
    private char lastFault;
    private List<Change> patch = new ArrayList<>();
    private long written;
    private long patches;
    private long allChanges;

    // Data

    private static void index(boolean right) {
        if (!right) {
            throw new IndexOutOfBoundsException();
        }
    }

    private static void legal(boolean right) {
        if (!right) {
            throw new IllegalArgumentException();
        }
    }

    private static void state(boolean right) {
        if (!right) {
            throw new IllegalStateException();
        }
    }

    private static void supported(boolean right) {
        if (!right) {
            throw new UnsupportedOperationException();
        }
    }

    private static void element(boolean right) {
        if (!right) {
            throw new NoSuchElementException();
        }
    }

    private static boolean inRange(int n) {
        return n >= -999 && n <= 999;
    }

    private String takeRow() {
        String text = row;
        row = "";
        return text;
    }

    private char set(int field, Object now) {
        char had = has(field);
        fields[field] = now;
        return had;
    }

    @SuppressWarnings("unchecked")
    private List<It> list(int field) {
        supported(fields[field] instanceof List);
        return (List<It>) fields[field];
    }

    public int type(char letter) {
        legal(LETTERS.indexOf(letter) >= 0);
        state(row.length() < 24);
        row += letter;
        return row.length();
    }

    public char setNumber(int field, int value) {
        index(field >= 0 && field < 6);
        legal(inRange(value));
        return set(field, value);
    }

    public char setText(int field) {
        index(field >= 0 && field < 6);
        return set(field, takeRow());
    }

    public char setList(int field) {
        index(field >= 0 && field < 6);
        return set(field, new ArrayList<It>());
    }

    public char clear(int field) {
        index(field >= 0 && field < 6);
        return set(field, null);
    }

    public char has(int field) {
        index(field >= 0 && field < 6);
        Object o = fields[field];
        return o == null ? '-' : o instanceof Integer ? 'n' : o instanceof String ? 't' : 'l';
    }

    public int addItem(int field, int key, int number) {
        index(field >= 0 && field < 6);
        legal(key >= 0 && key <= 99 && inRange(number));
        List<It> l = list(field);
        for (It it : l) {
            supported(it.key != key);
        }
        state(l.size() < 8);
        It it = new It();
        it.key = key;
        it.number = number;
        it.text = takeRow();
        l.add(it);
        return l.size();
    }

    public int setItem(int field, int place, int number) {
        index(field >= 0 && field < 6);
        legal(inRange(number));
        List<It> l = list(field);
        element(place >= 0 && place < l.size());
        int was = l.get(place).number;
        l.get(place).number = number;
        return was;
    }

    public int takeItem(int field, int place) {
        index(field >= 0 && field < 6);
        List<It> l = list(field);
        element(place >= 0 && place < l.size());
        return l.remove(place).key;
    }

    public int moveItem(int field, int from, int to) {
        index(field >= 0 && field < 6);
        List<It> l = list(field);
        element(from >= 0 && from < l.size() && to >= 0 && to < l.size());
        It it = l.remove(from);
        l.add(to, it);
        return it.key;
    }

    public int items(int field) {
        index(field >= 0 && field < 6);
        return list(field).size();
    }

    // Nodes

    private int add(Nd n) {
        state(nodes.size() < 100);
        if (n.kind == 'p') {
            n.text = takeRow();
        }
        nodes.add(n);
        return nodes.size() - 1;
    }

    private static Nd nd(char kind, boolean value) {
        Nd n = new Nd();
        n.kind = kind;
        n.value = value;
        return n;
    }

    private void isValue(int i) {
        index(i >= 0 && i < nodes.size() && nodes.get(i).value);
    }

    private void isPart(int i) {
        index(i >= 0 && i < nodes.size() && !nodes.get(i).value);
    }

    public int field(int field) {
        index(field >= 0 && field < 6);
        Nd n = nd('F', true);
        n.n = field;
        return add(n);
    }

    public int item(char part) {
        legal("knti".indexOf(part) >= 0);
        Nd n = nd('I', true);
        n.letter = part;
        return add(n);
    }

    public int argument() {
        return add(nd('A', true));
    }

    public int number(int value) {
        legal(inRange(value));
        Nd n = nd('N', true);
        n.n = value;
        return add(n);
    }

    public int filter(char kind, int value, int num) {
        legal("lucd+p".indexOf(kind) >= 0);
        legal("lup".indexOf(kind) >= 0 || num >= 0 && num <= 99);
        isValue(value);
        Nd n = nd('V', true);
        n.letter = kind;
        n.of = value;
        n.n = num;
        return add(n);
    }

    public int piece() {
        return add(nd('p', false));
    }

    public int hole(int value) {
        isValue(value);
        Nd n = nd('h', false);
        n.of = value;
        return add(n);
    }

    public int row(int first, int second) {
        isPart(first);
        isPart(second);
        Nd n = nd('r', false);
        n.a = first;
        n.b = second;
        return add(n);
    }

    public int choice(int value, int yes, int no) {
        isValue(value);
        isPart(yes);
        if (no != -1) {
            isPart(no);
        }
        Nd n = nd('c', false);
        n.of = value;
        n.a = yes;
        n.b = no;
        return add(n);
    }

    public int loop(int value, int body, int none) {
        isValue(value);
        isPart(body);
        if (none != -1) {
            isPart(none);
        }
        Nd n = nd('l', false);
        n.of = value;
        n.a = body;
        n.b = none;
        return add(n);
    }

    public int partial(int template, int argument, int fill) {
        index(template >= 0 && template < templates.size());
        if (argument != -1) {
            isValue(argument);
        }
        if (fill != -1) {
            isPart(fill);
        }
        Nd n = nd('P', false);
        n.n = template;
        n.of = argument;
        n.a = fill;
        return add(n);
    }

    public int slot() {
        return add(nd('s', false));
    }

    public int block(int name, int body) {
        legal(name >= 0 && name <= 3);
        isPart(body);
        Nd n = nd('b', false);
        n.n = name;
        n.a = body;
        return add(n);
    }

    public int up() {
        return add(nd('u', false));
    }

    public int guard(int first, int second) {
        isPart(first);
        isPart(second);
        Nd n = nd('g', false);
        n.a = first;
        n.b = second;
        return add(n);
    }

    public int later(int part, int body) {
        legal(part >= 0 && part <= 3);
        isPart(body);
        Nd n = nd('w', false);
        n.n = part;
        n.a = body;
        return add(n);
    }

    public int nodes() {
        return nodes.size();
    }

    // Templates

    private int addTemplate(int node, int base) {
        state(templates.size() < 8);
        Tm t = new Tm();
        t.node = node;
        t.base = base;
        templates.add(t);
        return templates.size() - 1;
    }

    public int template(int node) {
        isPart(node);
        return addTemplate(node, -1);
    }

    public int extend(int base) {
        index(base >= 0 && base < templates.size());
        return addTemplate(-1, base);
    }

    public boolean override(int template, int name, int node) {
        index(template >= 0 && template < templates.size());
        isPart(node);
        legal(name >= 0 && name <= 3);
        Tm t = templates.get(template);
        supported(t.base >= 0);
        boolean had = t.over[name] >= 0;
        t.over[name] = node;
        overridden = true;
        return had;
    }

    private int root(int template) {
        Tm t = templates.get(template);
        return t.base < 0 ? t.node : root(t.base);
    }

    private int overrider(int from, int name) {
        for (int t = from; t >= 0; t = templates.get(t).base) {
            if (templates.get(t).over[name] >= 0) {
                return t;
            }
        }
        return -1;
    }

    // Surroundings: "t", "x", "y", "q" or "u" and the name, "g" and the name and the last letter

    static String behind(String s, char c) {
        char name = s.length() > 1 ? s.charAt(1) : ' ';
        switch (s.charAt(0)) {
            case 't':
                return c == '<' ? "g  " : s;
            case 'g': {
                char last = s.charAt(2);
                if (c >= 'a' && c <= 'z') {
                    return "g" + (name == ' ' ? c : name) + c;
                }
                if (c == '/') {
                    return "g" + (name == ' ' ? c : name) + ' ';
                }
                if (c == '=') {
                    return s;
                }
                if (c == '"') {
                    return (last == 'h' ? "u" : "q") + name;
                }
                if (c == '>') {
                    return name == 's' ? "x" : "t";
                }
                return "g" + name + ' ';
            }
            case 'q':
            case 'u':
                return c == '"' ? "g" + name + " " : s;
            case 'x':
                return c == '<' ? "y" : s;
            default:
                return c == '/' ? "g/ " : c == '<' ? s : "x";
        }
    }

    // Checking

    private int count;
    private char[] begins;
    private int[] reads;
    private List<String> going;
    private Wrong found;

    private void look(int template) {
        count = 0;
        begins = new char[nodes.size()];
        reads = new int[nodes.size()];
        going = new ArrayList<>();
        found = null;
        Env e = new Env();
        e.template = template;
        going.add("T" + template);
        try {
            if (!through(root(template), e, "t").equals("t")) {
                throw new Wrong('e', root(template));
            }
        } catch (Wrong w) {
            found = w;
        }
    }

    private int fieldOf(int value, Env e) {
        if (value < 0) {
            return -1;
        }
        Nd n = nodes.get(value);
        switch (n.kind) {
            case 'V':
                return fieldOf(n.of, e);
            case 'F':
                return n.n;
            case 'A':
                return e.argumentField;
            default:
                return -1;
        }
    }

    private String through(int i, Env e, String s) {
        Nd n = nodes.get(i);
        count++;
        if (begins[i] == 0) {
            begins[i] = s.charAt(0);
        }
        if ("hcl".indexOf(n.kind) >= 0) {
            int f = fieldOf(n.of, e);
            if (f >= 0) {
                reads[i] |= 1 << f;
            }
        }
        if (count == 601) {
            throw new Wrong('m', i);
        }
        switch (n.kind) {
            case 'p':
                for (char c : n.text.toCharArray()) {
                    s = behind(s, c);
                }
                return s;
            case 'h':
                if ("gy".indexOf(s.charAt(0)) >= 0) {
                    throw new Wrong('g', i);
                }
                return s;
            case 'r':
                return through(n.b, e, through(n.a, e, s));
            case 'c':
            case 'g':
            case 'l': {
                String one = through(n.a, e, s);
                String two = n.b < 0 ? s : through(n.b, e, s);
                if (n.kind == 'l' ? !one.equals(s) || !two.equals(s) : !one.equals(two)) {
                    throw new Wrong(n.kind == 'l' ? 'l' : 'b', i);
                }
                return one;
            }
            case 'P': {
                if (going.contains("T" + n.n)) {
                    throw new Wrong('r', i);
                }
                Env in = new Env();
                in.template = n.n;
                in.fill = n.a;
                in.caller = e;
                in.argumentField = fieldOf(n.of, e);
                going.add("T" + n.n);
                s = through(root(n.n), in, s);
                going.remove(going.size() - 1);
                return s;
            }
            case 's':
                return e.caller == null || e.fill < 0 ? s : through(e.fill, e.caller, s);
            case 'b': {
                int by = overrider(e.template, n.n);
                if (by >= 0 && going.contains("O" + by + "," + n.n)) {
                    throw new Wrong('r', i);
                }
                return throughBlock(i, by, e, s);
            }
            case 'u':
                if (e.upTemplate < 0) {
                    return s;
                }
                return throughBlock(e.upBlock, overrider(templates.get(e.upTemplate).base, nodes.get(e.upBlock).n), e, s);
            default: {
                String end = through(n.a, e, s);
                if (!s.equals("t") || !end.equals("t")) {
                    throw new Wrong('w', i);
                }
                return end;
            }
        }
    }

    private String throughBlock(int block, int by, Env e, String s) {
        Nd n = nodes.get(block);
        Env in = e.copy();
        in.upTemplate = by;
        in.upBlock = by < 0 ? -1 : block;
        if (by < 0) {
            return through(n.a, in, s);
        }
        going.add("O" + by + "," + n.n);
        s = through(templates.get(by).over[n.n], in, s);
        going.remove(going.size() - 1);
        return s;
    }

    public char check(int template) {
        index(template >= 0 && template < templates.size());
        look(template);
        return found == null ? 'o' : found.kind;
    }

    public int wrong(int template) {
        index(template >= 0 && template < templates.size());
        look(template);
        element(found != null);
        return found.node;
    }

    public char around(int template, int node) {
        index(template >= 0 && template < templates.size() && node >= 0 && node < nodes.size());
        look(template);
        element(begins[node] != 0);
        return begins[node];
    }

    public int readers(int template, int field) {
        index(template >= 0 && template < templates.size() && field >= 0 && field < 6);
        look(template);
        return (int) Arrays.stream(reads).filter(r -> (r >> field & 1) == 1).count();
    }

    // Output

    private String here;

    private Object value(int i, Env e) {
        Nd n = nodes.get(i);
        switch (n.kind) {
            case 'F':
                return fields[n.n];
            case 'N':
                return n.n;
            case 'A':
                if (!e.inPartial) {
                    throw new Fault('a');
                }
                return e.argument;
            case 'I': {
                if (e.items == null) {
                    throw new Fault('i');
                }
                It it = e.items.get(e.place);
                return n.letter == 'k' ? (Object) it.key : n.letter == 'n' ? (Object) it.number : n.letter == 't' ? it.text : (Object) e.place;
            }
            default:
                return filtered(n, value(n.of, e));
        }
    }

    private static Object filtered(Nd n, Object v) {
        switch (n.letter) {
            case 'l':
                if (v instanceof String) {
                    return ((String) v).length();
                }
                if (v instanceof List) {
                    return ((List<?>) v).size();
                }
                break;
            case 'u':
                if (v instanceof String) {
                    return ((String) v).toUpperCase();
                }
                break;
            case 'c':
                if (v instanceof String) {
                    return ((String) v).substring(0, Math.min(n.n, ((String) v).length()));
                }
                break;
            case 'd':
                return v == null ? (Object) n.n : v;
            case '+':
                if (v instanceof Integer) {
                    return (Integer) v + n.n;
                }
                break;
            default:
                if (v instanceof Integer) {
                    return (Integer) v == 1 ? "" : "s";
                }
                break;
        }
        throw new Fault('t');
    }

    private static boolean isTrue(Object v) {
        return !(v == null || v.equals(0) || v.equals("") || v instanceof List && ((List<?>) v).isEmpty());
    }

    private static String writtenIn(char s, String text) {
        StringBuilder b = new StringBuilder();
        switch (s) {
            case 't':
            case 'q':
                text = text.replace("&", "&a").replace("<", "&l").replace(">", "&g");
                return s == 'q' ? text.replace("\"", "&q") : text;
            case 'x':
                return "\"" + text.replace("\"", "\\q").replace("<", "\\l") + "\"";
            case 'u':
                if (text.startsWith("j:")) {
                    return "#";
                }
                for (char c : text.toCharArray()) {
                    if (Character.isLetterOrDigit(c) || c == '-' || c == ':' || c == '/') {
                        b.append(c);
                    } else {
                        b.append('%').append(String.format("%02d", LETTERS.indexOf(c)));
                    }
                }
                return b.toString();
            default:
                throw new IllegalStateException("a hole that is wrong");
        }
    }

    @SuppressWarnings("unchecked")
    private Done done(int i, Env e) {
        Nd n = nodes.get(i);
        Done d = new Done();
        d.node = i;
        count++;
        if (count == 601) {
            throw new Fault('m');
        }
        switch (n.kind) {
            case 'p':
                d.out = n.text;
                for (char c : n.text.toCharArray()) {
                    here = behind(here, c);
                }
                break;
            case 'h': {
                Object v = value(n.of, e);
                if (v instanceof List) {
                    throw new Fault('t');
                }
                d.out = writtenIn(here.charAt(0), v == null ? "" : v.toString());
                break;
            }
            case 'r':
                d.parts.add(done(n.a, e));
                d.parts.add(done(n.b, e));
                break;
            case 'c': {
                boolean yes = isTrue(value(n.of, e));
                d.way = yes ? "yes" : "no";
                if (yes || n.b >= 0) {
                    d.parts.add(done(yes ? n.a : n.b, e));
                }
                break;
            }
            case 'g': {
                String before = here;
                d.way = "first";
                Done part;
                try {
                    part = done(n.a, e);
                } catch (Fault f) {
                    if (f.kind == 'm') {
                        throw f;
                    }
                    here = before;
                    d.way = "second";
                    part = done(n.b, e);
                }
                d.parts.add(part);
                break;
            }
            case 'l': {
                Object v = value(n.of, e);
                if (v != null && !(v instanceof List)) {
                    throw new Fault('t');
                }
                List<It> l = v == null ? new ArrayList<>() : (List<It>) v;
                d.way = l.isEmpty() ? "none" : "items";
                for (int k = 0; k < l.size(); k++) {
                    Env in = e.copy();
                    in.items = l;
                    in.place = k;
                    Done part = done(n.a, in);
                    part.key = l.get(k).key;
                    d.parts.add(part);
                }
                if (l.isEmpty() && n.b >= 0) {
                    d.parts.add(done(n.b, e));
                }
                break;
            }
            case 'P': {
                Env in = new Env();
                in.template = n.n;
                in.inPartial = true;
                in.argument = n.of < 0 ? null : value(n.of, e);
                in.fill = n.a;
                in.caller = e;
                d.parts.add(done(root(n.n), in));
                break;
            }
            case 's':
                if (e.caller != null && e.fill >= 0) {
                    d.parts.add(done(e.fill, e.caller));
                }
                break;
            case 'b':
                d.parts.add(doneBlock(i, overrider(e.template, n.n), e));
                break;
            case 'u':
                if (e.upTemplate >= 0) {
                    int base = templates.get(e.upTemplate).base;
                    d.parts.add(doneBlock(e.upBlock, overrider(base, nodes.get(e.upBlock).n), e));
                }
                break;
            default:
                d.way = come[n.n] ? "come" : "not yet";
                if (come[n.n]) {
                    d.parts.add(done(n.a, e));
                }
                break;
        }
        return d;
    }

    private Done doneBlock(int block, int by, Env e) {
        Env in = e.copy();
        in.upTemplate = by;
        in.upBlock = by < 0 ? -1 : block;
        Nd n = nodes.get(block);
        return done(by < 0 ? n.a : templates.get(by).over[n.n], in);
    }

    private void produce() {
        count = 0;
        here = "t";
        Env e = new Env();
        e.template = present;
        try {
            output = done(root(present), e);
            lastFault = 0;
            written += text(output).length();
        } catch (Fault f) {
            output = null;
            lastFault = f.kind;
        }
        overridden = false;
    }

    private static String text(Done d) {
        StringBuilder b = new StringBuilder(d.out);
        for (Done part : d.parts) {
            b.append(text(part));
        }
        return b.toString();
    }

    private static List<Integer> writers(Done d) {
        List<Integer> all = new ArrayList<>();
        for (int i = 0; i < d.out.length(); i++) {
            all.add(d.node);
        }
        for (Done part : d.parts) {
            all.addAll(writers(part));
        }
        return all;
    }

    public char make(int template) {
        index(template >= 0 && template < templates.size());
        look(template);
        supported(found == null);
        present = template;
        patch = new ArrayList<>();
        produce();
        return output == null ? 'f' : 'o';
    }

    public boolean comes(int part) {
        legal(part >= 0 && part <= 3);
        boolean had = come[part];
        come[part] = true;
        return had;
    }

    public char refresh() {
        state(present >= 0);
        look(present);
        supported(found == null);
        Done old = overridden ? null : output;
        patch = new ArrayList<>();
        produce();
        if (output == null) {
            return 'f';
        }
        if (old == null) {
            change('r', root(present), -1);
        } else {
            compare(old, output);
        }
        patches++;
        allChanges += patch.size();
        return 'o';
    }

    private void change(char kind, int node, int key) {
        Change c = new Change();
        c.kind = kind;
        c.node = node;
        c.key = key;
        patch.add(c);
    }

    private void compare(Done was, Done is) {
        if (was.node != is.node) {
            throw new IllegalStateException("other nodes are compared");
        }
        if (!was.way.equals(is.way) || !was.out.equals(is.out)) {
            change('r', is.node, -1);
        } else if (is.way.equals("items")) {
            compareItems(was, is);
        } else {
            for (int i = 0; i < is.parts.size(); i++) {
                compare(was.parts.get(i), is.parts.get(i));
            }
        }
    }

    private static int place(Done loop, int key) {
        for (int i = 0; i < loop.parts.size(); i++) {
            if (loop.parts.get(i).key == key) {
                return i;
            }
        }
        return -1;
    }

    private void compareItems(Done was, Done is) {
        for (Done part : was.parts) {
            if (place(is, part.key) < 0) {
                change('d', is.node, part.key);
            }
        }
        int n = is.parts.size();
        List<Integer> stay = new ArrayList<>();
        for (int set = 0; set < 1 << n; set++) {
            List<Integer> row = new ArrayList<>();
            int last = -1;
            boolean right = true;
            for (int i = 0; i < n; i++) {
                if ((set >> i & 1) == 1) {
                    int old = place(was, is.parts.get(i).key);
                    right &= old > last;
                    last = old;
                    row.add(i);
                }
            }
            if (right && (row.size() > stay.size() || row.size() == stay.size() && isLower(row, stay))) {
                stay = row;
            }
        }
        for (int i = 0; i < n; i++) {
            Done part = is.parts.get(i);
            int old = place(was, part.key);
            if (old < 0) {
                change('i', is.node, part.key);
                continue;
            }
            if (!stay.contains(i)) {
                change('m', is.node, part.key);
            }
            compare(was.parts.get(old), part);
        }
    }

    private static boolean isLower(List<Integer> a, List<Integer> b) {
        for (int i = 0; i < a.size(); i++) {
            if (!a.get(i).equals(b.get(i))) {
                return a.get(i) < b.get(i);
            }
        }
        return false;
    }

    public int length() {
        state(output != null);
        return text(output).length();
    }

    public char letterAt(int place) {
        state(output != null);
        index(place >= 0 && place < text(output).length());
        return text(output).charAt(place);
    }

    public int writerOf(int place) {
        state(output != null);
        index(place >= 0 && place < text(output).length());
        return writers(output).get(place);
    }

    public int changes() {
        return patch.size();
    }

    public char changeAt(int i) {
        index(i >= 0 && i < patch.size());
        return patch.get(i).kind;
    }

    public int changedNode(int i) {
        index(i >= 0 && i < patch.size());
        return patch.get(i).node;
    }

    public int changedKey(int i) {
        index(i >= 0 && i < patch.size());
        supported(patch.get(i).kind != 'r');
        return patch.get(i).key;
    }

    public char fault() {
        element(lastFault != 0);
        return lastFault;
    }

    public long written() {
        return written;
    }

    public float holeShare() {
        state(output != null);
        int holes = 0;
        List<Integer> all = writers(output);
        for (int w : all) {
            holes += nodes.get(w).kind == 'h' ? 1 : 0;
        }
        return all.isEmpty() ? 0.0f : (float) holes / (float) all.size();
    }

    public double meanChanges() {
        if (patches == 0) {
            throw new ArithmeticException();
        }
        return (double) allChanges / (double) patches;
    }

    public boolean isSound() {
        return true;
    }
}
