import java.util.ArrayList;
import java.util.Arrays;
import java.util.NoSuchElementException;

/**
 * A language of templates that is safe by what surrounds its holes, and whose output is refreshed
 * by the least patch. The numbered promises of DOC.md say what each method does.
 */
public final class Weftpage {
    private static final int FIELDS = 6;
    private static final int ITEMS = 8;
    private static final int KEYS = 100;
    private static final int RANGE = 999;
    private static final int FILTER_NUMBERS = 100;
    private static final int ROW = 24;
    private static final int NODES = 100;
    private static final int TEMPLATES = 8;
    private static final int NAMES = 4;
    private static final int PARTS = 4;
    private static final int NONE = -1;
    /** So many nodes may be gone through, or done; one more is too many. */
    private static final int MOST_DONE = 600;
    /** Far above the turns that a walk over so many nodes takes. */
    private static final int TURNS = 100000;
    /** No letter that a text is written by takes more than this. */
    private static final int WRITTEN_LETTER = 3;
    private static final int FIRST_LETTERS = 256;
    private static final char NO = 0;
    private static final String LETTERS = "abcdefghijklmnopqrstuvwxyz <>/=\"&:#";
    private static final int IN_TEXT = 't';

    private final Value[] fields = new Value[FIELDS];
    private final char[] row = new char[ROW];
    private int rowLength;
    private final boolean[] come = new boolean[PARTS];
    private final Book book = new Book();
    private final Checker checker;
    private final Maker maker;
    private final Patch patch = new Patch();
    private Trace now = new Trace();
    private Trace ahead = new Trace();
    private int present = NONE;
    private boolean there;
    private boolean patched;
    private boolean overridden;
    private char fault = NO;
    private long lettersSoFar;
    private long patchesSoFar;
    private long changesSoFar;

    public Weftpage() {
        for (int i = 0; i < FIELDS; i++) {
            fields[i] = new Value();
        }
        checker = new Checker(book);
        maker = new Maker(book, fields, come, now);
    }

    // Data

    public int type(char letter) throws IllegalArgumentException, IllegalStateException {
        if (LETTERS.indexOf(letter) < 0) {
            throw new IllegalArgumentException("there is no such letter");
        }
        if (rowLength < 0 || rowLength >= row.length) {
            throw new IllegalStateException("the row is full");
        }
        row[rowLength] = letter;
        rowLength++;
        return rowLength;
    }

    public char setNumber(int field, int value) throws IndexOutOfBoundsException, IllegalArgumentException {
        Value cell = fieldOf(field);
        if (isOutOfRange(value)) {
            throw new IllegalArgumentException("the number is out of range");
        }
        char had = cell.kind;
        cell.becomeNumber(value);
        return had;
    }

    public char setText(int field) throws IndexOutOfBoundsException {
        Value cell = fieldOf(field);
        char had = cell.kind;
        cell.becomeText(takeRow());
        return had;
    }

    public char setList(int field) throws IndexOutOfBoundsException {
        Value cell = fieldOf(field);
        char had = cell.kind;
        cell.becomeList(new ArrayList<Item>());
        return had;
    }

    public char clear(int field) throws IndexOutOfBoundsException {
        Value cell = fieldOf(field);
        char had = cell.kind;
        cell.becomeNothing();
        return had;
    }

    public char has(int field) throws IndexOutOfBoundsException {
        return fieldOf(field).kind;
    }

    public int addItem(int field, int key, int number) throws IndexOutOfBoundsException, IllegalArgumentException, UnsupportedOperationException, IllegalStateException {
        Value cell = fieldOf(field);
        if (key < 0 || key >= KEYS || isOutOfRange(number)) {
            throw new IllegalArgumentException("a number is out of range");
        }
        ArrayList<Item> list = listOf(cell);
        if (hasKey(list, key)) {
            throw new UnsupportedOperationException("the list has this key");
        }
        if (list.size() >= ITEMS) {
            throw new IllegalStateException("the list is full");
        }
        list.add(new Item(key, number, takeRow()));
        return list.size();
    }

    public int setItem(int field, int place, int number) throws IndexOutOfBoundsException, IllegalArgumentException, UnsupportedOperationException, NoSuchElementException {
        Value cell = fieldOf(field);
        if (isOutOfRange(number)) {
            throw new IllegalArgumentException("the number is out of range");
        }
        Item item = itemOf(listOf(cell), place);
        int before = item.number;
        item.number = number;
        return before;
    }

    public int takeItem(int field, int place) throws IndexOutOfBoundsException, UnsupportedOperationException, NoSuchElementException {
        ArrayList<Item> list = listOf(fieldOf(field));
        Item item = itemOf(list, place);
        list.remove(place);
        return item.key;
    }

    public int moveItem(int field, int from, int to) throws IndexOutOfBoundsException, UnsupportedOperationException, NoSuchElementException {
        ArrayList<Item> list = listOf(fieldOf(field));
        Item item = itemOf(list, from);
        if (to < 0 || to >= list.size()) {
            throw new NoSuchElementException("there is no such place");
        }
        list.remove(from);
        list.add(to, item);
        return item.key;
    }

    public int items(int field) throws IndexOutOfBoundsException, UnsupportedOperationException {
        return listOf(fieldOf(field)).size();
    }

    // Nodes

    public int field(int field) throws IndexOutOfBoundsException, IllegalStateException {
        if (isNoField(field)) {
            throw new IndexOutOfBoundsException("there is no such field");
        }
        return addNode(new Node(Node.FIELD, NONE, NONE, NONE, field));
    }

    public int item(char part) throws IllegalArgumentException, IllegalStateException {
        if (part != 'k' && part != 'n' && part != 't' && part != 'i') {
            throw new IllegalArgumentException("there is no such part");
        }
        return addNode(new Node(Node.ITEM, NONE, NONE, NONE, part));
    }

    public int argument() throws IllegalStateException {
        return addNode(new Node(Node.ARGUMENT, NONE, NONE, NONE, NONE));
    }

    public int number(int value) throws IllegalArgumentException, IllegalStateException {
        if (isOutOfRange(value)) {
            throw new IllegalArgumentException("the number is out of range");
        }
        return addNode(new Node(Node.NUMBER, NONE, NONE, NONE, value));
    }

    public int filter(char kind, int value, int n) throws IllegalArgumentException, IndexOutOfBoundsException, IllegalStateException {
        boolean withoutNumber = kind == 'l' || kind == 'u' || kind == 'p';
        boolean withNumber = kind == 'c' || kind == 'd' || kind == '+';
        if (!withoutNumber && !withNumber) {
            throw new IllegalArgumentException("there is no such kind");
        }
        if (withNumber && (n < 0 || n >= FILTER_NUMBERS)) {
            throw new IllegalArgumentException("the number is out of range");
        }
        wantValue(value);
        return addNode(new Node(Node.FILTER, value, kind, NONE, n));
    }

    public int piece() throws IllegalStateException {
        wantRoomForNode();
        return addNode(new Node(takeRow()));
    }

    public int hole(int value) throws IndexOutOfBoundsException, IllegalStateException {
        wantValue(value);
        return addNode(new Node(Node.HOLE, value, NONE, NONE, NONE));
    }

    public int row(int first, int second) throws IndexOutOfBoundsException, IllegalStateException {
        wantPart(first);
        wantPart(second);
        return addNode(new Node(Node.ROW, NONE, first, second, NONE));
    }

    public int choice(int value, int yes, int no) throws IndexOutOfBoundsException, IllegalStateException {
        wantValue(value);
        wantPart(yes);
        if (no != NONE) {
            wantPart(no);
        }
        return addNode(new Node(Node.CHOICE, value, yes, no, NONE));
    }

    public int loop(int value, int body, int none) throws IndexOutOfBoundsException, IllegalStateException {
        wantValue(value);
        wantPart(body);
        if (none != NONE) {
            wantPart(none);
        }
        return addNode(new Node(Node.LOOP, value, body, none, NONE));
    }

    public int partial(int template, int argument, int fill) throws IndexOutOfBoundsException, IllegalStateException {
        wantTemplate(template);
        if (argument != NONE) {
            wantValue(argument);
        }
        if (fill != NONE) {
            wantPart(fill);
        }
        return addNode(new Node(Node.PARTIAL, argument, fill, NONE, template));
    }

    public int slot() throws IllegalStateException {
        return addNode(new Node(Node.SLOT, NONE, NONE, NONE, NONE));
    }

    public int block(int name, int body) throws IllegalArgumentException, IndexOutOfBoundsException, IllegalStateException {
        wantName(name);
        wantPart(body);
        return addNode(new Node(Node.BLOCK, NONE, body, NONE, name));
    }

    public int up() throws IllegalStateException {
        return addNode(new Node(Node.UP, NONE, NONE, NONE, NONE));
    }

    public int guard(int first, int second) throws IndexOutOfBoundsException, IllegalStateException {
        wantPart(first);
        wantPart(second);
        return addNode(new Node(Node.GUARD, NONE, first, second, NONE));
    }

    public int later(int part, int body) throws IllegalArgumentException, IndexOutOfBoundsException, IllegalStateException {
        wantLaterPart(part);
        wantPart(body);
        return addNode(new Node(Node.LATER, NONE, body, NONE, part));
    }

    public int nodes() {
        return book.nodeCount;
    }

    // Templates

    public int template(int node) throws IndexOutOfBoundsException, IllegalStateException {
        wantPart(node);
        return addTemplate(node, NONE);
    }

    public int extend(int base) throws IndexOutOfBoundsException, IllegalStateException {
        wantTemplate(base);
        return addTemplate(book.rootOf(base), base);
    }

    public boolean override(int template, int name, int node) throws IndexOutOfBoundsException, IllegalArgumentException, UnsupportedOperationException {
        wantTemplate(template);
        wantPart(node);
        wantName(name);
        if (book.baseOf(template) == NONE) {
            throw new UnsupportedOperationException("the template does not extend another one");
        }
        boolean had = book.overrideOf(template, name) != NONE;
        book.setOverride(template, name, node);
        checker.forget();
        overridden = true;
        return had;
    }

    public char check(int template) throws IndexOutOfBoundsException {
        wantTemplate(template);
        checker.walk(template);
        return checker.stop == NO ? 'o' : checker.stop;
    }

    public int wrong(int template) throws IndexOutOfBoundsException, NoSuchElementException {
        wantTemplate(template);
        checker.walk(template);
        if (checker.stop == NO) {
            throw new NoSuchElementException("the template is right");
        }
        return checker.stopNode;
    }

    public char around(int template, int node) throws IndexOutOfBoundsException, NoSuchElementException {
        wantTemplate(template);
        if (book.nodeAt(node) == null) {
            throw new IndexOutOfBoundsException("there is no such node");
        }
        checker.walk(template);
        char begun = checker.beginOf(node);
        if (begun == NO) {
            throw new NoSuchElementException("the node is not gone through");
        }
        return begun;
    }

    public int readers(int template, int field) throws IndexOutOfBoundsException {
        wantTemplate(template);
        if (isNoField(field)) {
            throw new IndexOutOfBoundsException("there is no such field");
        }
        checker.walk(template);
        return checker.countReaders(field);
    }

    // Output

    public char make(int template) throws IndexOutOfBoundsException, UnsupportedOperationException {
        wantTemplate(template);
        checker.walk(template);
        if (checker.stop != NO) {
            throw new UnsupportedOperationException("the template is wrong");
        }
        present = template;
        maker.writeInto(now);
        maker.walk(template);
        patch.size = 0;
        patched = false;
        return endOutput();
    }

    public boolean comes(int part) throws IllegalArgumentException {
        wantLaterPart(part);
        boolean had = come[part];
        come[part] = true;
        return had;
    }

    public char refresh() throws IllegalStateException, UnsupportedOperationException {
        if (present == NONE) {
            throw new IllegalStateException("no template was made");
        }
        checker.walk(present);
        if (checker.stop != NO) {
            throw new UnsupportedOperationException("the template is wrong");
        }
        boolean whole = !there || overridden;
        Trace old = now;
        now = ahead;
        ahead = old;
        maker.writeInto(now);
        maker.walk(present);
        patch.size = 0;
        patched = maker.stop == NO;
        if (patched) {
            if (whole) {
                patch.replaceAll(now);
            } else {
                patch.compare(ahead, now);
            }
            patchesSoFar++;
            changesSoFar += patch.size;
        }
        return endOutput();
    }

    public int length() throws IllegalStateException {
        wantOutput();
        return now.length;
    }

    public char letterAt(int place) throws IllegalStateException, IndexOutOfBoundsException {
        wantOutput();
        if (now.hasNoPlace(place)) {
            throw new IndexOutOfBoundsException("there is no such place");
        }
        return now.letters[place];
    }

    public int writerOf(int place) throws IllegalStateException, IndexOutOfBoundsException {
        wantOutput();
        int writer = now.hasNoPlace(place) ? NONE : now.writerAt(place);
        if (writer == NONE) {
            throw new IndexOutOfBoundsException("there is no such place");
        }
        return writer;
    }

    public int changes() {
        return patch.size;
    }

    public char changeAt(int index) throws IndexOutOfBoundsException {
        wantChange(index);
        return patch.kinds[index];
    }

    public int changedNode(int index) throws IndexOutOfBoundsException {
        wantChange(index);
        return patch.nodes[index];
    }

    public int changedKey(int index) throws IndexOutOfBoundsException, UnsupportedOperationException {
        wantChange(index);
        if (patch.kinds[index] == 'r') {
            throw new UnsupportedOperationException("the change is of no item");
        }
        return patch.keys[index];
    }

    public char fault() throws NoSuchElementException {
        if (fault == NO) {
            throw new NoSuchElementException("the last output did not fail");
        }
        return fault;
    }

    public long written() {
        return lettersSoFar;
    }

    public float holeShare() throws IllegalStateException {
        wantOutput();
        if (now.length <= 0) {
            return 0.0f;
        }
        return (float) now.lettersOfHoles() / (float) now.length;
    }

    public double meanChanges() throws ArithmeticException {
        if (patchesSoFar <= 0) {
            throw new ArithmeticException("there was no patch");
        }
        return (double) changesSoFar / (double) patchesSoFar;
    }

    public boolean isSound() {
        if (!there) {
            return true;
        }
        return now.holesStay() && (!patched || patch.leadsTo(ahead, now));
    }

    // What the methods above share

    private static boolean isNoField(int field) {
        return field < 0 || field >= FIELDS;
    }

    private static boolean isOutOfRange(int number) {
        return number < -RANGE || number > RANGE;
    }

    private Value fieldOf(int field) {
        if (isNoField(field)) {
            throw new IndexOutOfBoundsException("there is no such field");
        }
        return fields[field];
    }

    private static ArrayList<Item> listOf(Value cell) {
        ArrayList<Item> list = cell.list;
        if (cell.kind != 'l' || list == null) {
            throw new UnsupportedOperationException("the field has no list");
        }
        return list;
    }

    private static Item itemOf(ArrayList<Item> list, int place) {
        if (place < 0 || place >= list.size()) {
            throw new NoSuchElementException("there is no such item");
        }
        return list.get(place);
    }

    private static boolean hasKey(ArrayList<Item> list, int key) {
        for (int i = 0; i < list.size(); i++) {
            if (list.get(i).key == key) {
                return true;
            }
        }
        return false;
    }

    private char[] takeRow() {
        int length = Math.max(0, Math.min(rowLength, ROW));
        char[] text = new char[length];
        System.arraycopy(row, 0, text, 0, length);
        rowLength = 0;
        return text;
    }

    private void wantValue(int node) {
        Node found = book.nodeAt(node);
        if (found == null || !found.isValue()) {
            throw new IndexOutOfBoundsException("there is no such node of a value");
        }
    }

    private void wantPart(int node) {
        Node found = book.nodeAt(node);
        if (found == null || found.isValue()) {
            throw new IndexOutOfBoundsException("there is no such node that is no value");
        }
    }

    private void wantTemplate(int template) {
        if (book.hasNoTemplate(template)) {
            throw new IndexOutOfBoundsException("there is no such template");
        }
    }

    private static void wantName(int name) {
        if (name < 0 || name >= NAMES) {
            throw new IllegalArgumentException("there is no such name");
        }
    }

    private static void wantLaterPart(int part) {
        if (part < 0 || part >= PARTS) {
            throw new IllegalArgumentException("there is no such part");
        }
    }

    private void wantRoomForNode() {
        if (book.nodeCount >= NODES) {
            throw new IllegalStateException("there are 100 nodes");
        }
    }

    private int addNode(Node node) {
        wantRoomForNode();
        return book.add(node);
    }

    private int addTemplate(int root, int base) {
        if (book.templateCount >= TEMPLATES) {
            throw new IllegalStateException("there are 8 templates");
        }
        return book.addTemplate(root, base);
    }

    private void wantOutput() {
        if (!there) {
            throw new IllegalStateException("there is no output");
        }
    }

    private void wantChange(int index) {
        if (index < 0 || index >= patch.size) {
            throw new IndexOutOfBoundsException("there is no such change");
        }
    }

    private char endOutput() {
        overridden = false;
        fault = maker.stop;
        there = fault == NO;
        if (there) {
            lettersSoFar += now.length;
        }
        return there ? 'o' : 'f';
    }

    // Surroundings are a letter, a name and a last letter in one number; what the letter does not
    // need is left 0 there, so that two of them are alike just if the numbers are.

    private static int surroundings(char letter, char name, char last) {
        return letter | name << 8 | last << 16;
    }

    private static char letterIn(int surroundings) {
        return (char) (surroundings & 255);
    }

    private static int behind(int here, char letter) {
        char name = (char) (here >> 8 & 255);
        switch (letterIn(here)) {
            case 't':
                return letter == '<' ? surroundings('g', ' ', ' ') : here;
            case 'g':
                return behindInTag(here, letter);
            case 'q':
            case 'u':
                return letter == '"' ? surroundings('g', name, ' ') : here;
            case 'x':
                return letter == '<' ? 'y' : here;
            default:
                if (letter == '/') {
                    return surroundings('g', '/', ' ');
                }
                return letter == '<' ? here : 'x';
        }
    }

    private static int behindInTag(int here, char letter) {
        char name = (char) (here >> 8 & 255);
        char last = (char) (here >> 16 & 255);
        if (letter >= 'a' && letter <= 'z') {
            return surroundings('g', name == ' ' ? letter : name, letter);
        }
        switch (letter) {
            case '/':
                return surroundings('g', name == ' ' ? '/' : name, ' ');
            case '=':
                return here;
            case '"':
                return surroundings(last == 'h' ? 'u' : 'q', name, NO);
            case '>':
                return name == 's' ? 'x' : IN_TEXT;
            default:
                return surroundings('g', name, ' ');
        }
    }

    /** An item of a list. */
    private static final class Item {
        final int key;
        int number;
        final char[] text;

        Item(int key, int number, char[] text) {
            this.key = key;
            this.number = number;
            this.text = text;
        }
    }

    /** What a field has, and what a value is worked out to: '-' nothing, 'n', 't' or 'l'. */
    private static final class Value {
        char kind = '-';
        int number;
        final char[] text = new char[ROW];
        int length;
        ArrayList<Item> list;

        void becomeNothing() {
            kind = '-';
            length = 0;
            list = null;
        }

        void becomeNumber(int value) {
            kind = 'n';
            number = value;
            length = 0;
            list = null;
        }

        void becomeText(char[] letters) {
            kind = 't';
            list = null;
            length = Math.min(letters.length, text.length);
            System.arraycopy(letters, 0, text, 0, length);
        }

        void becomeList(ArrayList<Item> items) {
            kind = 'l';
            length = 0;
            list = items;
        }

        void become(Value other) {
            kind = other.kind;
            number = other.number;
            length = Math.max(0, Math.min(other.length, text.length));
            System.arraycopy(other.text, 0, text, 0, length);
            list = other.list;
        }

        int listSize() {
            return list == null ? 0 : list.size();
        }

        boolean isTrue() {
            switch (kind) {
                case 'n':
                    return number != 0;
                case 't':
                    return length > 0;
                case 'l':
                    return listSize() > 0;
                default:
                    return false;
            }
        }

        /** Makes of the value what a filter makes of it; answers false if it can't work with it. */
        boolean pass(char filter, int n) {
            switch (filter) {
                case 'l':
                    if (kind != 't' && kind != 'l') {
                        return false;
                    }
                    becomeNumber(kind == 't' ? length : listSize());
                    return true;
                case 'u':
                    raise();
                    return kind == 't';
                case 'c':
                    length = Math.max(0, Math.min(length, n));
                    return kind == 't';
                case 'd':
                    if (kind == '-') {
                        becomeNumber(n);
                    }
                    return true;
                case '+':
                    number += n;
                    return kind == 'n';
                default:
                    return passPlural();
            }
        }

        private boolean passPlural() {
            if (kind != 'n') {
                return false;
            }
            kind = 't';
            length = number == 1 ? 0 : 1;
            text[0] = 's';
            return true;
        }

        private void raise() {
            for (int i = 0; i < length && i < text.length; i++) {
                if (text[i] >= 'a' && text[i] <= 'z') {
                    text[i] = (char) (text[i] - 'a' + 'A');
                }
            }
        }

        /** Makes a number the text of its digits, and nothing the empty one. */
        void spell() {
            if (kind != 'n') {
                return;
            }
            int rest = Math.abs(number);
            int sign = number < 0 ? 1 : 0;
            int size = sign + 1;
            for (int more = rest / 10; more > 0 && size < text.length; more /= 10) {
                size++;
            }
            for (int i = size - 1; i >= sign; i--) {
                text[i] = (char) ('0' + rest % 10);
                rest /= 10;
            }
            if (sign > 0) {
                text[0] = '-';
            }
            kind = 't';
            length = size;
        }

        boolean beginsWithScheme() {
            return length >= 2 && text[0] == 'j' && text[1] == ':';
        }
    }

    /** A node: its kind, and of its parts and numbers those that the kind has. */
    private static final class Node {
        static final char FIELD = 'f';
        static final char ITEM = 'i';
        static final char ARGUMENT = 'a';
        static final char NUMBER = 'n';
        static final char FILTER = 'v';
        static final char PIECE = 'p';
        static final char HOLE = 'h';
        static final char ROW = 'r';
        static final char CHOICE = 'c';
        static final char LOOP = 'l';
        static final char PARTIAL = 'P';
        static final char SLOT = 's';
        static final char BLOCK = 'b';
        static final char UP = 'u';
        static final char GUARD = 'g';
        static final char LATER = 'w';

        final char kind;
        /** What is read: of a filter what it works on, of a partial its argument. */
        final int value;
        /** The first part: of a partial its fill; of a filter its letter instead. */
        final int first;
        final int second;
        /** The field, the item's part, the number, the template, the name or the later part. */
        final int n;
        /** Of a piece; that of others is empty. */
        final char[] text;

        Node(char kind, int value, int first, int second, int n) {
            this.kind = kind;
            this.value = value;
            this.first = first;
            this.second = second;
            this.n = n;
            this.text = new char[0];
        }

        Node(char[] text) {
            this.kind = PIECE;
            this.value = NONE;
            this.first = NONE;
            this.second = NONE;
            this.n = NONE;
            this.text = text;
        }

        boolean isValue() {
            switch (kind) {
                case FIELD:
                case ITEM:
                case ARGUMENT:
                case NUMBER:
                case FILTER:
                    return true;
                default:
                    return false;
            }
        }
    }

    /** The nodes and the templates. */
    private static final class Book {
        private final Node[] nodes = new Node[NODES];
        int nodeCount;
        private final int[] roots = new int[TEMPLATES];
        private final int[] bases = new int[TEMPLATES];
        private final int[] overrides = new int[TEMPLATES * NAMES];
        int templateCount;

        int add(Node node) {
            if (nodeCount < 0 || nodeCount >= nodes.length) {
                return NONE;
            }
            nodes[nodeCount] = node;
            nodeCount++;
            return nodeCount - 1;
        }

        /** The node, or null if there is none. */
        Node nodeAt(int number) {
            return number < 0 || number >= nodeCount || number >= nodes.length ? null : nodes[number];
        }

        int addTemplate(int root, int base) {
            if (templateCount < 0 || templateCount >= TEMPLATES) {
                return NONE;
            }
            roots[templateCount] = root;
            bases[templateCount] = base;
            for (int name = 0; name < NAMES; name++) {
                overrides[templateCount * NAMES + name] = NONE;
            }
            templateCount++;
            return templateCount - 1;
        }

        boolean hasNoTemplate(int template) {
            return template < 0 || template >= templateCount || template >= TEMPLATES;
        }

        /** The template's node, which is that of the lowest one that it extends. */
        int rootOf(int template) {
            return hasNoTemplate(template) ? NONE : roots[template];
        }

        int baseOf(int template) {
            return hasNoTemplate(template) ? NONE : bases[template];
        }

        int overrideOf(int template, int name) {
            boolean none = hasNoTemplate(template) || name < 0 || name >= NAMES;
            return none ? NONE : overrides[template * NAMES + name];
        }

        void setOverride(int template, int name, int node) {
            if (!hasNoTemplate(template) && name >= 0 && name < NAMES) {
                overrides[template * NAMES + name] = node;
            }
        }

        /** The template whose override does a block, from this one on downwards, or -1. */
        int overriderFrom(int template, int name) {
            int at = template;
            for (int i = 0; i < TEMPLATES && !hasNoTemplate(at) && name >= 0 && name < NAMES; i++) {
                if (overrides[at * NAMES + name] != NONE) {
                    return at;
                }
                at = bases[at];
            }
            return NONE;
        }
    }

    /** What holds where a node stands: the partial around, the item around, the override around. */
    private static final class Scope {
        /** The template whose overrides do the blocks. */
        int template;
        /** Of the partial around, null without one. */
        Value argument;
        /** The field that the argument reads, or -1. */
        int argumentField;
        int fill;
        /** What holds where the partial around is called, null without one. */
        Scope caller;
        /** The list of the innermost loop around, null without one. */
        ArrayList<Item> items;
        int place;
        /** The template whose override is around, or -1, and the block that it does. */
        int overrider;
        int block;
        private Value room;

        void begin(int newTemplate) {
            template = newTemplate;
            argument = null;
            argumentField = NONE;
            fill = NONE;
            caller = null;
            items = null;
            place = 0;
            overrider = NONE;
            block = NONE;
        }

        void become(Scope other) {
            template = other.template;
            argument = other.argument;
            argumentField = other.argumentField;
            fill = other.fill;
            caller = other.caller;
            items = other.items;
            place = other.place;
            overrider = other.overrider;
            block = other.block;
        }

        void setArgument(Value value) {
            if (room == null) {
                room = new Value();
            }
            room.become(value);
            argument = room;
        }

        /** The item around, or null if there is none. */
        Item currentItem() {
            boolean none = items == null || place < 0 || place >= items.size();
            return none ? null : items.get(place);
        }
    }

    /** A node that is being gone through. */
    private static final class Step {
        int number;
        Scope scope;
        boolean begun;
        /** How often it was gone on with. */
        int phase;
        /** The surroundings in which it begins, and those in which its first part ends. */
        int start;
        int firstEnd;
        /** The template or the override that is being gone through with it, or -1. */
        int going;
        int scopesBelow;
        /** The key of the item that it is done for, or -1, and where it stands in the trace. */
        int key;
        int entry;
        /** What holds in a loop's node. */
        Scope inner;

        void begin(int newNumber, Scope newScope, int here) {
            number = newNumber;
            scope = newScope;
            begun = false;
            phase = 0;
            start = here;
            firstEnd = here;
            going = NONE;
            key = NONE;
            entry = NONE;
            inner = null;
        }
    }

    /**
     * A walk over the nodes of a template. Its own stack of steps stands in place of recursion,
     * for rows, overrides and fills can be 600 nodes deep.
     */
    private abstract static class Walk {
        final Book book;
        private final Step[] steps = new Step[MOST_DONE + 2];
        private final Scope[] scopes = new Scope[MOST_DONE + 3];
        /** How often each template, and behind these each override, is being gone through. */
        private final int[] going = new int[TEMPLATES + TEMPLATES * NAMES];
        int depth;
        private int scopesUsed;
        private int count;
        /** The surroundings reached. */
        int here;
        /** What is wrong with the node just gone on with, or NO. */
        char trouble;
        /** What ended the walk early, or NO, and the node at which it did. */
        char stop;
        int stopNode;

        Walk(Book book) {
            this.book = book;
        }

        /** Gets ready; answers false if there is no need to walk. */
        abstract boolean starts(int template);

        abstract void begun(Step s, Node n);

        /** Goes on with a node; answers whether that was all, if there was no trouble. */
        abstract boolean go(Step s, Node n);

        abstract void ended(Step s);

        /** Does what is to be done about the trouble. */
        abstract void settle(Step s);

        private void startOver(int template) {
            depth = 0;
            scopesUsed = 0;
            count = 0;
            here = IN_TEXT;
            trouble = NO;
            stop = NO;
            stopNode = NONE;
            Arrays.fill(going, 0);
            Scope outermost = newScope();
            outermost.begin(template);
            markGoing(template, 1);
            push(book.rootOf(template), outermost);
        }

        final void walk(int template) {
            if (!starts(template)) {
                return;
            }
            startOver(template);
            for (int turn = 0; turn < TURNS && stop == NO && depth > 0; turn++) {
                Step s = stepAt(depth - 1);
                Node n = s == null ? null : book.nodeAt(s.number);
                if (n == null) {
                    return;
                }
                if (!s.begun) {
                    s.begun = true;
                    count++;
                    begun(s, n);
                    trouble = count > MOST_DONE ? 'm' : NO;
                } else {
                    s.phase++;
                    if (go(s, n)) {
                        pop();
                    }
                }
                if (trouble != NO) {
                    settle(s);
                    trouble = NO;
                }
            }
        }

        final Step stepAt(int place) {
            return place < 0 || place >= depth || place >= steps.length ? null : steps[place];
        }

        /** Puts a node on top, which is begun next; answers null if there is no such node. */
        final Step push(int number, Scope scope) {
            if (book.nodeAt(number) == null || depth < 0 || depth >= steps.length) {
                return null;
            }
            Step s = steps[depth];
            if (s == null) {
                s = new Step();
                steps[depth] = s;
            }
            s.begin(number, scope, here);
            s.scopesBelow = scopesUsed;
            depth++;
            return s;
        }

        final void pop() {
            Step s = stepAt(depth - 1);
            if (s != null) {
                depth--;
                scopesUsed = s.scopesBelow;
                markGoing(s.going, -1);
                ended(s);
            }
        }

        final void stopAt(int node, char why) {
            stop = why;
            stopNode = node;
        }

        final boolean raise(char why) {
            trouble = why;
            return false;
        }

        final boolean isGoing(int what) {
            return what >= 0 && what < going.length && going[what] > 0;
        }

        private void markGoing(int what, int by) {
            if (what >= 0 && what < going.length) {
                going[what] += by;
            }
        }

        static int overrideMark(int template, int name) {
            return template == NONE ? NONE : TEMPLATES + template * NAMES + name;
        }

        /** A scope that is used again when the step on top is gone. */
        final Scope newScope() {
            if (scopesUsed < 0 || scopesUsed >= scopes.length) {
                return new Scope();
            }
            Scope scope = scopes[scopesUsed];
            if (scope == null) {
                scope = new Scope();
                scopes[scopesUsed] = scope;
            }
            scopesUsed++;
            return scope;
        }

        final boolean goRow(Step s, Node n) {
            if (s.phase <= 2) {
                push(s.phase == 1 ? n.first : n.second, s.scope);
            }
            return s.phase > 2;
        }

        /** Begins a partial: what holds in it, but for its argument, which the walks see to. */
        final Scope newPartialScope(Step s, Node n) {
            Scope inside = newScope();
            inside.begin(n.n);
            inside.fill = n.first;
            inside.caller = s.scope;
            s.going = n.n;
            markGoing(n.n, 1);
            return inside;
        }

        final boolean goSlot(Step s) {
            if (s.phase == 1 && s.scope.caller != null) {
                push(s.scope.fill, s.scope.caller);
            }
            return s.phase > 1;
        }

        final boolean goUp(Step s) {
            if (s.phase == 1 && s.scope.overrider != NONE) {
                goBlock(s, s.scope.block, book.baseOf(s.scope.overrider));
            }
            return s.phase > 1;
        }

        /** Goes on with what does a block, looked for from a template on downwards. */
        final void goBlock(Step s, int block, int from) {
            Node n = book.nodeAt(block);
            if (n == null) {
                return;
            }
            int by = book.overriderFrom(from, n.n);
            Scope inside = newScope();
            inside.become(s.scope);
            inside.overrider = by;
            inside.block = by == NONE ? NONE : block;
            s.going = overrideMark(by, n.n);
            markGoing(s.going, 1);
            push(by == NONE ? n.first : book.overrideOf(by, n.n), inside);
        }
    }

    /** Goes through a template ahead of any output, and keeps what it found of the last one. */
    private static final class Checker extends Walk {
        private int looked = NONE;
        /** The letters of the surroundings in which the nodes begin first; 0 not gone through. */
        private final int[] begins = new int[NODES];
        /** The fields that the holes, choices and loops read, a bit for each. */
        private final int[] reads = new int[NODES];

        Checker(Book book) {
            super(book);
        }

        void forget() {
            looked = NONE;
        }

        char beginOf(int node) {
            return node < 0 || node >= begins.length ? NO : (char) begins[node];
        }

        int countReaders(int field) {
            int readers = 0;
            for (int i = 0; i < reads.length; i++) {
                readers += reads[i] >> field & 1;
            }
            return readers;
        }

        boolean starts(int template) {
            if (template == looked) {
                return false;
            }
            looked = template;
            Arrays.fill(begins, 0);
            Arrays.fill(reads, 0);
            return true;
        }

        void begun(Step s, Node n) {
            if (s.number < 0 || s.number >= NODES) {
                return;
            }
            if (begins[s.number] == 0) {
                begins[s.number] = letterIn(here);
            }
            if (n.kind == Node.HOLE || n.kind == Node.CHOICE || n.kind == Node.LOOP) {
                int field = fieldRead(n.value, s.scope);
                reads[s.number] |= field == NONE ? 0 : 1 << field;
            }
        }

        void ended(Step s) {
            if (depth == 0 && here != IN_TEXT) {
                stopAt(s.number, 'e');
            }
        }

        void settle(Step s) {
            stopAt(s.number, trouble);
        }

        private int fieldRead(int value, Scope scope) {
            Node n = book.nodeAt(value);
            for (int i = 0; i < NODES && n != null && n.kind == Node.FILTER; i++) {
                n = book.nodeAt(n.value);
            }
            if (n == null) {
                return NONE;
            }
            if (n.kind == Node.ARGUMENT) {
                return scope.argumentField;
            }
            return n.kind == Node.FIELD ? n.n : NONE;
        }

        boolean go(Step s, Node n) {
            switch (n.kind) {
                case Node.PIECE:
                    return goThroughPiece(n);
                case Node.HOLE:
                    return goThroughHole();
                case Node.ROW:
                    return goRow(s, n);
                case Node.CHOICE:
                case Node.LOOP:
                case Node.GUARD:
                    return goThroughBoth(s, n);
                case Node.PARTIAL:
                    return goThroughPartial(s, n);
                case Node.SLOT:
                    return goSlot(s);
                case Node.BLOCK:
                    return goThroughBlock(s, n);
                case Node.UP:
                    return goUp(s);
                default:
                    return goThroughLater(s, n);
            }
        }

        private boolean goThroughPiece(Node n) {
            for (int i = 0; i < n.text.length; i++) {
                here = behind(here, n.text[i]);
            }
            return true;
        }

        private boolean goThroughHole() {
            char letter = letterIn(here);
            return letter == 'g' || letter == 'y' ? raise('g') : true;
        }

        /** Both nodes of a choice, a loop or a guard, each from where it begins. */
        private boolean goThroughBoth(Step s, Node n) {
            if (s.phase == 1) {
                push(n.first, s.scope);
                return false;
            }
            if (s.phase == 2) {
                s.firstEnd = here;
                here = s.start;
                push(n.second, s.scope);
                return false;
            }
            if (n.kind == Node.LOOP && (s.firstEnd != s.start || here != s.start)) {
                return raise('l');
            }
            return here == s.firstEnd || raise('b');
        }

        private boolean goThroughPartial(Step s, Node n) {
            if (s.phase > 1) {
                return true;
            }
            if (isGoing(n.n)) {
                return raise('r');
            }
            Scope inside = newPartialScope(s, n);
            inside.argumentField = fieldRead(n.value, s.scope);
            push(book.rootOf(n.n), inside);
            return false;
        }

        private boolean goThroughBlock(Step s, Node n) {
            if (s.phase > 1) {
                return true;
            }
            int by = book.overriderFrom(s.scope.template, n.n);
            if (isGoing(overrideMark(by, n.n))) {
                return raise('r');
            }
            goBlock(s, s.number, s.scope.template);
            return false;
        }

        private boolean goThroughLater(Step s, Node n) {
            if (s.phase == 1) {
                push(n.first, s.scope);
                return false;
            }
            return s.start == IN_TEXT && here == IN_TEXT || raise('w');
        }
    }

    /** Does the nodes of a template that is right, with the data as they are. */
    private static final class Maker extends Walk {
        private final Value[] fields;
        private final boolean[] come;
        private final Value value = new Value();
        private final Node[] filters = new Node[NODES];
        private Trace trace;

        Maker(Book book, Value[] fields, boolean[] come, Trace trace) {
            super(book);
            this.fields = fields;
            this.come = come;
            this.trace = trace;
        }

        void writeInto(Trace newTrace) {
            trace = newTrace;
        }

        boolean starts(int template) {
            trace.size = 0;
            trace.length = 0;
            return true;
        }

        void begun(Step s, Node n) {
            s.entry = trace.open(s.number, n.kind, s.key);
        }

        void ended(Step s) {
            trace.close(s.entry);
        }

        /** Goes back to the innermost guard that is at its first node, or ends the walk. */
        void settle(Step s) {
            int place = trouble == 'm' ? NONE : depth - 1;
            while (place >= 0 && !isAtFirst(place)) {
                place--;
            }
            Step guard = stepAt(place);
            Node n = guard == null ? null : book.nodeAt(guard.number);
            if (n == null) {
                stopAt(s.number, trouble);
                return;
            }
            for (int i = depth - 1; i > place; i--) {
                pop();
            }
            trace.cutBehind(guard.entry);
            trace.turn(guard.entry, 1);
            here = guard.start;
            guard.phase++;
            push(n.second, guard.scope);
        }

        private boolean isAtFirst(int place) {
            Step s = stepAt(place);
            Node n = s == null ? null : book.nodeAt(s.number);
            return n != null && n.kind == Node.GUARD && s.phase == 1;
        }

        boolean go(Step s, Node n) {
            switch (n.kind) {
                case Node.PIECE:
                    return doPiece(n);
                case Node.HOLE:
                    return doHole(s, n);
                case Node.ROW:
                    return goRow(s, n);
                case Node.CHOICE:
                    return doChoice(s, n);
                case Node.LOOP:
                    return doLoop(s, n);
                case Node.PARTIAL:
                    return doPartial(s, n);
                case Node.SLOT:
                    return goSlot(s);
                case Node.BLOCK:
                    return doBlock(s);
                case Node.UP:
                    return goUp(s);
                case Node.GUARD:
                    return doGuard(s, n);
                default:
                    return doLater(s, n);
            }
        }

        private boolean doPiece(Node n) {
            trace.reserve(n.text.length);
            for (int i = 0; i < n.text.length; i++) {
                trace.put(n.text[i]);
                here = behind(here, n.text[i]);
            }
            return true;
        }

        private boolean doHole(Step s, Node n) {
            char fault = workOut(n.value, s.scope);
            if (fault == NO && value.kind == 'l') {
                fault = 't';
            }
            if (fault != NO) {
                return raise(fault);
            }
            value.spell();
            trace.reserve(WRITTEN_LETTER * (ROW + 1));
            switch (letterIn(here)) {
                case 'u':
                    writeInAddress();
                    break;
                case 'x':
                    writeInScript();
                    break;
                default:
                    writeInText(letterIn(here) == 'q');
                    break;
            }
            return true;
        }

        private boolean doChoice(Step s, Node n) {
            if (s.phase > 1) {
                return true;
            }
            char fault = workOut(n.value, s.scope);
            if (fault != NO) {
                return raise(fault);
            }
            boolean yes = value.isTrue();
            trace.turn(s.entry, yes ? 1 : 0);
            push(yes ? n.first : n.second, s.scope);
            return false;
        }

        private boolean doLoop(Step s, Node n) {
            if (s.phase == 1) {
                char fault = workOut(n.value, s.scope);
                if (fault == NO && value.kind != 'l' && value.kind != '-') {
                    fault = 't';
                }
                if (fault != NO) {
                    return raise(fault);
                }
                if (value.listSize() == 0) {
                    push(n.second, s.scope);
                    return false;
                }
                trace.turn(s.entry, 1);
                s.inner = newScope();
                s.inner.become(s.scope);
                s.inner.items = value.list;
            }
            return s.inner == null || doNextItem(s, n);
        }

        private boolean doNextItem(Step s, Node n) {
            s.inner.place = s.phase - 1;
            Item item = s.inner.currentItem();
            if (item == null) {
                return true;
            }
            Step body = push(n.first, s.inner);
            if (body != null) {
                body.key = item.key;
            }
            return false;
        }

        private boolean doPartial(Step s, Node n) {
            if (s.phase > 1) {
                return true;
            }
            value.becomeNothing();
            char fault = n.value == NONE ? NO : workOut(n.value, s.scope);
            if (fault != NO) {
                return raise(fault);
            }
            Scope inside = newPartialScope(s, n);
            inside.setArgument(value);
            push(book.rootOf(n.n), inside);
            return false;
        }

        private boolean doBlock(Step s) {
            if (s.phase == 1) {
                goBlock(s, s.number, s.scope.template);
            }
            return s.phase > 1;
        }

        private boolean doGuard(Step s, Node n) {
            if (s.phase == 1) {
                push(n.first, s.scope);
            }
            return s.phase > 1;
        }

        private boolean doLater(Step s, Node n) {
            boolean hasCome = n.n >= 0 && n.n < come.length && come[n.n];
            if (s.phase == 1 && hasCome) {
                trace.turn(s.entry, 1);
                push(n.first, s.scope);
            }
            return s.phase > 1;
        }

        /** Works out a value, which stands in the register then; answers the fault, or NO. */
        private char workOut(int node, Scope scope) {
            Node n = book.nodeAt(node);
            int count = 0;
            while (n != null && n.kind == Node.FILTER && count < filters.length) {
                filters[count] = n;
                count++;
                n = book.nodeAt(n.value);
            }
            if (n == null) {
                return 't';
            }
            char fault = n.kind == Node.ITEM ? readItem((char) n.n, scope) : read(n, scope);
            for (int i = count - 1; i >= 0 && fault == NO; i--) {
                Node filter = filters[i];
                fault = filter != null && value.pass((char) filter.first, filter.n) ? NO : 't';
            }
            return fault;
        }

        private char read(Node n, Scope scope) {
            switch (n.kind) {
                case Node.FIELD:
                    if (n.n < 0 || n.n >= fields.length || fields[n.n] == null) {
                        return 't';
                    }
                    value.become(fields[n.n]);
                    return NO;
                case Node.ARGUMENT:
                    if (scope.argument == null) {
                        return 'a';
                    }
                    value.become(scope.argument);
                    return NO;
                default:
                    value.becomeNumber(n.n);
                    return NO;
            }
        }

        private char readItem(char part, Scope scope) {
            Item item = scope.currentItem();
            if (item == null) {
                return 'i';
            }
            switch (part) {
                case 'k':
                    value.becomeNumber(item.key);
                    break;
                case 'n':
                    value.becomeNumber(item.number);
                    break;
                case 't':
                    value.becomeText(item.text);
                    break;
                default:
                    value.becomeNumber(scope.place);
                    break;
            }
            return NO;
        }

        private void writeInText(boolean quoted) {
            for (int i = 0; i < value.length; i++) {
                char letter = value.text[i];
                char stands = NO;
                switch (letter) {
                    case '<':
                        stands = 'l';
                        break;
                    case '>':
                        stands = 'g';
                        break;
                    case '&':
                        stands = 'a';
                        break;
                    case '"':
                        stands = quoted ? 'q' : NO;
                        break;
                    default:
                        break;
                }
                writeFor(letter, '&', stands);
            }
        }

        private void writeInScript() {
            trace.put('"');
            for (int i = 0; i < value.length; i++) {
                char letter = value.text[i];
                char stands = letter == '"' ? 'q' : letter == '<' ? 'l' : NO;
                writeFor(letter, '\\', stands);
            }
            trace.put('"');
        }

        private void writeFor(char letter, char mark, char stands) {
            if (stands == NO) {
                trace.put(letter);
            } else {
                trace.put(mark);
                trace.put(stands);
            }
        }

        private void writeInAddress() {
            if (value.beginsWithScheme()) {
                trace.put('#');
                return;
            }
            for (int i = 0; i < value.length; i++) {
                char letter = value.text[i];
                if (isPlainInAddress(letter)) {
                    trace.put(letter);
                } else {
                    int place = LETTERS.indexOf(letter);
                    trace.put('%');
                    trace.put((char) ('0' + place / 10));
                    trace.put((char) ('0' + place % 10));
                }
            }
        }

        private static boolean isPlainInAddress(char letter) {
            if (letter >= 'a' && letter <= 'z' || letter >= 'A' && letter <= 'Z') {
                return true;
            }
            return letter >= '0' && letter <= '9' || letter == '-' || letter == ':' || letter == '/';
        }
    }

    /** An output: what was done, each thing ahead of its parts, and the letters written. */
    private static final class Trace {
        final char[] kinds = new char[MOST_DONE + 1];
        final int[] nodes = new int[MOST_DONE + 1];
        /** Of what was done for an item, its key. */
        final int[] keys = new int[MOST_DONE + 1];
        /** Which of its nodes did a choice or guard; whether a loop had items, a part had come. */
        final int[] ways = new int[MOST_DONE + 1];
        /** What stands behind the thing and all its parts. */
        final int[] ends = new int[MOST_DONE + 1];
        /** Its letters: the first, and the one behind the last. */
        final int[] starts = new int[MOST_DONE + 1];
        final int[] stops = new int[MOST_DONE + 1];
        int size;
        char[] letters = new char[FIRST_LETTERS];
        int length;

        private boolean holds(int entry) {
            return entry >= 0 && entry < size && entry < nodes.length;
        }

        int open(int node, char kind, int key) {
            if (size < 0 || size >= nodes.length) {
                return NONE;
            }
            int entry = size;
            size++;
            kinds[entry] = kind;
            nodes[entry] = node;
            keys[entry] = key;
            ways[entry] = 0;
            ends[entry] = size;
            starts[entry] = length;
            stops[entry] = length;
            return entry;
        }

        void close(int entry) {
            if (holds(entry)) {
                ends[entry] = size;
                stops[entry] = length;
            }
        }

        void turn(int entry, int way) {
            if (holds(entry)) {
                ways[entry] = way;
            }
        }

        /** Takes away what was done behind the beginning of an entry. */
        void cutBehind(int entry) {
            if (holds(entry)) {
                size = entry + 1;
                length = starts[entry];
            }
        }

        void reserve(int more) {
            int wanted = length + more;
            if (wanted > letters.length) {
                char[] wider = new char[Math.max(wanted, 2 * letters.length)];
                System.arraycopy(letters, 0, wider, 0, letters.length);
                letters = wider;
            }
        }

        void put(char letter) {
            if (length >= 0 && length < letters.length) {
                letters[length] = letter;
                length++;
            }
        }

        boolean hasNoPlace(int place) {
            return place < 0 || place >= length || place >= letters.length;
        }

        boolean isWriter(int entry) {
            return holds(entry) && (kinds[entry] == Node.HOLE || kinds[entry] == Node.PIECE);
        }

        int writerAt(int place) {
            for (int e = 0; e < size; e++) {
                if (isWriter(e) && starts[e] <= place && place < stops[e]) {
                    return nodes[e];
                }
            }
            return NONE;
        }

        int lettersOfHoles() {
            int sum = 0;
            for (int e = 0; e < size && e < kinds.length; e++) {
                if (kinds[e] == Node.HOLE) {
                    sum += stops[e] - starts[e];
                }
            }
            return sum;
        }

        /** Whether each hole begins and ends in surroundings that are alike. */
        boolean holesStay() {
            int around = IN_TEXT;
            for (int e = 0; e < size; e++) {
                if (!isWriter(e)) {
                    continue;
                }
                int before = around;
                for (int i = starts[e]; i < stops[e]; i++) {
                    if (hasNoPlace(i)) {
                        return false;
                    }
                    around = behind(around, letters[i]);
                }
                if (kinds[e] == Node.HOLE && around != before) {
                    return false;
                }
            }
            return true;
        }
    }

    /** The changes from one output to the next. */
    private static final class Patch {
        /** At most one for each thing done ahead, and two for each done now. */
        private static final int MOST = 3 * (MOST_DONE + 1);

        final char[] kinds = new char[MOST];
        final int[] nodes = new int[MOST];
        final int[] keys = new int[MOST];
        /** What was done now, or ahead for an item that is gone, that the change is of. */
        private final int[] entries = new int[MOST];
        int size;
        /** Of each thing done now: what it was ahead, its own change 'i' or 'm', and its loop. */
        private final int[] matches = new int[MOST_DONE + 1];
        private final char[] marks = new char[MOST_DONE + 1];
        private final int[] loops = new int[MOST_DONE + 1];
        private final int[] oldItems = new int[ITEMS];
        private final int[] newItems = new int[ITEMS];
        private final int[] oldPlaces = new int[ITEMS];
        private final int[] rows = new int[ITEMS];

        private void add(char kind, int node, int key, int entry) {
            if (size < 0 || size >= MOST) {
                return;
            }
            kinds[size] = kind;
            nodes[size] = node;
            keys[size] = key;
            entries[size] = entry;
            size++;
        }

        private static boolean isIn(Trace trace, int entry) {
            return entry >= 0 && entry < trace.size && entry <= MOST_DONE;
        }

        private void match(int entry, int old, char mark, int loop) {
            if (entry >= 0 && entry <= MOST_DONE) {
                matches[entry] = old;
                marks[entry] = mark;
                loops[entry] = loop;
            }
        }

        void replaceAll(Trace now) {
            size = 0;
            if (isIn(now, 0)) {
                add('r', now.nodes[0], NONE, 0);
            }
        }

        /** Goes through what was done now; what a thing was ahead is known when it is reached. */
        void compare(Trace ahead, Trace now) {
            size = 0;
            match(0, 0, NO, NONE);
            for (int e = 0; e < now.size;) {
                e = Math.max(e + 1, compareAt(ahead, now, e));
            }
        }

        /** Tells the changes of one thing done now; answers where to go on. */
        private int compareAt(Trace ahead, Trace now, int e) {
            if (!isIn(now, e)) {
                return e + 1;
            }
            if (marks[e] != NO) {
                add(marks[e], loops[e], now.keys[e], e);
            }
            int old = matches[e];
            if (marks[e] == 'i' || !isIn(ahead, old)) {
                return now.ends[e];
            }
            boolean other = ahead.ways[old] != now.ways[e];
            if (now.kinds[e] == Node.HOLE) {
                other = !sameLetters(ahead, old, now, e);
            }
            if (other) {
                add('r', now.nodes[e], NONE, e);
                return now.ends[e];
            }
            if (now.kinds[e] == Node.LOOP && now.ways[e] == 1) {
                matchItems(ahead, old, now, e);
            } else {
                matchParts(ahead, old, now, e);
            }
            return e + 1;
        }

        private static boolean sameLetters(Trace ahead, int old, Trace now, int e) {
            int length = now.stops[e] - now.starts[e];
            if (ahead.stops[old] - ahead.starts[old] != length) {
                return false;
            }
            for (int i = 0; i < length; i++) {
                int was = ahead.starts[old] + i;
                int is = now.starts[e] + i;
                if (ahead.hasNoPlace(was) || now.hasNoPlace(is) || ahead.letters[was] != now.letters[is]) {
                    return false;
                }
            }
            return true;
        }

        private void matchParts(Trace ahead, int old, Trace now, int e) {
            int was = old + 1;
            int is = e + 1;
            for (int i = 0; i < MOST_DONE && is < now.ends[e] && was < ahead.ends[old]; i++) {
                if (!isIn(now, is) || !isIn(ahead, was)) {
                    return;
                }
                match(is, was, NO, NONE);
                is = now.ends[is];
                was = ahead.ends[was];
            }
        }

        /** Finds where the items of a loop stand; answers how many there are. */
        private static int findItems(Trace trace, int loop, int[] items) {
            int count = 0;
            int at = loop + 1;
            while (count < items.length && at < trace.ends[loop] && isIn(trace, at)) {
                items[count] = at;
                count++;
                at = trace.ends[at];
            }
            return count;
        }

        private static int placeOfKey(Trace trace, int[] items, int count, int key) {
            for (int i = 0; i < count && i < items.length; i++) {
                if (isIn(trace, items[i]) && trace.keys[items[i]] == key) {
                    return i;
                }
            }
            return NONE;
        }

        private void matchItems(Trace ahead, int old, Trace now, int e) {
            int loop = now.nodes[e];
            int oldCount = findItems(ahead, old, oldItems);
            int newCount = findItems(now, e, newItems);
            for (int i = 0; i < oldCount; i++) {
                int key = ahead.keys[oldItems[i]];
                if (placeOfKey(now, newItems, newCount, key) == NONE) {
                    add('d', loop, key, oldItems[i]);
                }
            }
            for (int i = 0; i < newCount; i++) {
                oldPlaces[i] = placeOfKey(ahead, oldItems, oldCount, now.keys[newItems[i]]);
            }
            int longest = measureRows(newCount);
            int last = NONE;
            for (int i = 0; i < newCount; i++) {
                int was = oldPlaces[i];
                if (was == NONE) {
                    match(newItems[i], NONE, 'i', loop);
                } else if (rows[i] == longest && was > last) {
                    match(newItems[i], oldItems[was], NO, loop);
                    longest--;
                    last = was;
                } else {
                    match(newItems[i], oldItems[was], 'm', loop);
                }
            }
        }

        /** Finds, for each item, the longest row in the old order that begins with it. */
        private int measureRows(int count) {
            int longest = 0;
            for (int i = count - 1; i >= 0; i--) {
                rows[i] = 0;
                if (oldPlaces[i] == NONE) {
                    continue;
                }
                for (int j = i + 1; j < count; j++) {
                    if (oldPlaces[j] > oldPlaces[i]) {
                        rows[i] = Math.max(rows[i], rows[j]);
                    }
                }
                rows[i]++;
                longest = Math.max(longest, rows[i]);
            }
            return longest;
        }

        /** Whether the changes, done with the output ahead, make the one that there is. */
        boolean leadsTo(Trace ahead, Trace now) {
            int change = 0;
            int length = 0;
            for (int e = 0; e < now.size && e <= MOST_DONE;) {
                change = skip(change, 'd', NONE);
                change = skip(change, 'm', e);
                int behindNew = skip(skip(change, 'i', e), 'r', e);
                if (behindNew > change) {
                    length += now.stops[e] - now.starts[e];
                    change = behindNew;
                    e = Math.max(e + 1, now.ends[e]);
                    continue;
                }
                if (now.isWriter(e)) {
                    if (length != now.starts[e] || !isIn(ahead, matches[e]) || !sameLetters(ahead, matches[e], now, e)) {
                        return false;
                    }
                    length += ahead.stops[matches[e]] - ahead.starts[matches[e]];
                }
                e++;
            }
            return change == size && length == now.length;
        }

        /** Goes past the changes of a kind from here on, those of one thing, or of all for -1. */
        private int skip(int from, char kind, int entry) {
            int at = from;
            while (at >= 0 && at < size && at < MOST && kinds[at] == kind && (entry == NONE || entries[at] == entry)) {
                at++;
            }
            return at;
        }
    }
}
