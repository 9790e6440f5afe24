import java.util.function.Supplier;

/**
 * Each refused call: with the first value that is not allowed on both sides, with what it leaves
 * unchanged, and with two exceptions that apply at once, of which the one listed first is thrown.
 */
public final class RefusalTests extends Checks {
    private static final int LEAST = Integer.MIN_VALUE;
    private static final int MOST = Integer.MAX_VALUE;

    /** The node of each kind that rich() has, and its templates. */
    private static final int VALUE = 0;
    private static final int PART = 1;
    private static final int RIGHT = 0;
    private static final int EXTENDING = 1;
    private static final int WRONG = 2;
    private static final int FAILING = 3;
    private static final int NO_NODE = 99;
    private static final int NO_TEMPLATE = 7;

    interface Refused {
        Object on(Weftpage x);
    }

    // Objects in the states in which calls are refused

    private static void data(Weftpage x) {
        x.setNumber(0, 5);
        setText(x, 1, "a<\"b");
        x.setList(2);
        add(x, 2, 10, -1, "x");
        add(x, 2, 20, 1, "");
        x.setList(3);
        for (int i = 0; i < 8; i++) {
            add(x, 3, i * 14, i, "y");
        }
        x.setList(5);
    }

    private static int shownField(Weftpage x, int field, int letters) {
        int f = x.field(field);
        int each = x.row(x.hole(x.item('k')), x.hole(x.item('t')));
        return x.guard(x.loop(f, x.row(each, letters), letters), x.hole(f));
    }

    /** Has data of all kinds, right, wrong and failing templates, an output, a patch, and "ab" in the row. */
    private static Weftpage rich() {
        Weftpage x = new Weftpage();
        data(x);
        x.field(0);
        int letters = piece(x, "#");
        int all = shownField(x, 0, letters);
        for (int field = 1; field < 6; field++) {
            all = x.row(all, shownField(x, field, letters));
        }
        int block = x.block(0, all);
        x.template(x.row(block, x.later(1, letters)));
        x.extend(RIGHT);
        x.override(EXTENDING, 3, letters);
        x.template(piece(x, "<b"));
        x.template(x.hole(x.item('k')));
        x.comes(2);
        x.make(RIGHT);
        x.setNumber(0, 6);
        x.takeItem(3, 2);
        x.moveItem(3, 0, 6);
        add(x, 3, 1, 1, "z");
        x.refresh();
        type(x, "ab");
        return x;
    }

    private static Weftpage failed() {
        Weftpage x = rich();
        x.make(FAILING);
        return x;
    }

    private static Weftpage withFullRow() {
        Weftpage x = rich();
        type(x, "abcdefghijklmnopqrstuv");
        return x;
    }

    private static Weftpage withFullNodes() {
        Weftpage x = rich();
        while (x.nodes() < 100) {
            x.slot();
        }
        return x;
    }

    private static Weftpage withFullTemplates() {
        Weftpage x = rich();
        for (int i = 4; i < 8; i++) {
            x.extend(EXTENDING);
        }
        return x;
    }

    /** The template that was made is wrong, as a block of it was overridden. */
    private static Weftpage withWrongPresent() {
        Weftpage x = rich();
        x.make(EXTENDING);
        int open = piece(x, "<");
        x.override(EXTENDING, 0, open);
        return x;
    }

    // What shows of an object

    private static void show(StringBuilder into, Call call) {
        try {
            into.append(call.run());
        } catch (RuntimeException e) {
            into.append(e.getClass().getSimpleName());
        }
        into.append(' ');
    }

    private static void showOutput(StringBuilder b, Weftpage x) {
        show(b, () -> text(x));
        show(b, x::fault);
        show(b, x::written);
        show(b, x::holeShare);
        show(b, x::meanChanges);
        show(b, x::isSound);
        show(b, x::changes);
        for (int i = 0; i < 4; i++) {
            int index = i;
            show(b, () -> x.changeAt(index));
            show(b, () -> x.changedNode(index));
            show(b, () -> x.changedKey(index));
        }
    }

    private static void showTemplates(StringBuilder b, Weftpage x) {
        for (int i = 0; i < 8; i++) {
            int t = i;
            show(b, () -> x.check(t));
            show(b, () -> x.wrong(t));
            show(b, () -> x.around(t, PART));
            show(b, () -> x.readers(t, 0));
        }
    }

    private static void showData(StringBuilder b, Weftpage x) {
        for (int i = 0; i < 6; i++) {
            int field = i;
            show(b, () -> x.has(field));
            show(b, () -> x.items(field));
            show(b, () -> x.setItem(field, 0, 3));
            show(b, () -> x.setItem(field, 1, 3));
        }
    }

    /** All that shows of the object, in fewer than 512 calls; it is of no use behind that. */
    private static String shown(Weftpage x) {
        StringBuilder b = new StringBuilder();
        show(b, x::nodes);
        showOutput(b, x);
        showTemplates(b, x);
        show(b, x::refresh);
        showOutput(b, x);
        show(b, () -> x.type('z'));
        show(b, x::piece);
        show(b, () -> x.extend(0));
        for (int i = 0; i < 4; i++) {
            int part = i;
            show(b, () -> x.comes(part));
            show(b, () -> x.override(EXTENDING, part, PART));
        }
        show(b, () -> x.make(RIGHT));
        show(b, () -> text(x));
        showData(b, x);
        return b.toString();
    }

    /** Holds that a call on such an object throws this, and leaves all as it was. */
    private static void refuse(Class<?> want, Supplier<Weftpage> made, Refused call) {
        Weftpage x = made.get();
        thrown(want, () -> call.on(x));
        is(shown(x), shown(made.get()));
    }

    /** Refused with each of these: the values next to those that are allowed, and the far ones. */
    private static int[] outside(int first, int last) {
        return new int[] {first - 1, last + 1, LEAST, MOST, last + 256, first - 256};
    }

    interface RefusedWith {
        Object on(Weftpage x, int value);
    }

    private static void refuseOutside(Class<?> want, int first, int last, RefusedWith call) {
        for (int value : outside(first, last)) {
            refuse(want, RefusalTests::rich, x -> call.on(x, value));
        }
    }

    private static void refuseFields(RefusedWith call) {
        refuseOutside(INDEX, 0, 5, call);
    }

    private static void refuseNumbers(RefusedWith call) {
        refuseOutside(ARGUMENT, -999, 999, call);
    }

    // Data

    private static void rowAndFields() {
        test("type: IllegalArgumentException if there is no such letter", () -> {
            for (char c : "AZ`{;09!-.\\%\n\u0000\u00e4\u0161\uffff".toCharArray()) {
                refuse(ARGUMENT, RefusalTests::rich, x -> x.type(c));
            }
        });
        test("type: IllegalStateException if it has 24 letters", () -> refuse(STATE, RefusalTests::withFullRow, x -> x.type('a')));
        test("type: no such letter ahead of a full row", () -> refuse(ARGUMENT, RefusalTests::withFullRow, x -> x.type('A')));
        test("setNumber: IndexOutOfBoundsException if there is no such field", () -> refuseFields((x, f) -> x.setNumber(f, 0)));
        test("setNumber: IllegalArgumentException if the number is out of range", () -> {
            for (int field = 0; field < 6; field++) {
                int f = field;
                refuseNumbers((x, n) -> x.setNumber(f, n));
            }
        });
        test("setNumber: no such field ahead of the number", () -> refuseFields((x, f) -> x.setNumber(f, 1000)));
        test("setText: IndexOutOfBoundsException if there is no such field", () -> refuseFields((x, f) -> x.setText(f)));
        test("setList: IndexOutOfBoundsException if there is no such field", () -> refuseFields((x, f) -> x.setList(f)));
        test("clear: IndexOutOfBoundsException if there is no such field", () -> refuseFields((x, f) -> x.clear(f)));
        test("has: IndexOutOfBoundsException if there is no such field", () -> refuseFields((x, f) -> x.has(f)));
    }

    private static void addedItems() {
        test("addItem: IndexOutOfBoundsException if there is no such field", () -> refuseFields((x, f) -> x.addItem(f, 0, 0)));
        test("addItem: IllegalArgumentException if the key is out of range", () -> refuseOutside(ARGUMENT, 0, 99, (x, k) -> x.addItem(2, k, 0)));
        test("addItem: IllegalArgumentException if the number is out of range", () -> refuseNumbers((x, n) -> x.addItem(2, 0, n)));
        test("addItem: UnsupportedOperationException if the field has no list", () -> {
            for (int field : new int[] {0, 1, 4}) {
                refuse(UNSUPPORTED, RefusalTests::rich, x -> x.addItem(field, 0, 0));
            }
        });
        test("addItem: UnsupportedOperationException if it has one with this key", () -> {
            refuse(UNSUPPORTED, RefusalTests::rich, x -> x.addItem(2, 10, 0));
            refuse(UNSUPPORTED, RefusalTests::rich, x -> x.addItem(2, 20, 0));
        });
        test("addItem: IllegalStateException if it has 8 items", () -> refuse(STATE, RefusalTests::rich, x -> x.addItem(3, 2, 0)));
        test("addItem: no such field ahead of the key and of the number", () -> {
            refuseFields((x, f) -> x.addItem(f, 100, 0));
            refuseFields((x, f) -> x.addItem(f, 0, -1000));
        });
        test("addItem: a number out of range ahead of a field without a list", () -> {
            refuse(ARGUMENT, RefusalTests::rich, x -> x.addItem(0, -1, 0));
            refuse(ARGUMENT, RefusalTests::rich, x -> x.addItem(0, 0, 1000));
        });
        test("addItem: a number out of range ahead of the same key", () -> refuse(ARGUMENT, RefusalTests::rich, x -> x.addItem(2, 10, 1000)));
        test("addItem: a number out of range ahead of 8 items", () -> {
            refuse(ARGUMENT, RefusalTests::rich, x -> x.addItem(3, 100, 0));
            refuse(ARGUMENT, RefusalTests::rich, x -> x.addItem(3, 2, -1000));
        });
        test("addItem: the same key ahead of 8 items", () -> {
            refuse(UNSUPPORTED, RefusalTests::rich, x -> x.addItem(3, 14, 0));
            refuse(UNSUPPORTED, RefusalTests::rich, x -> x.addItem(3, 1, 0));
        });
    }

    private static void otherItems() {
        test("setItem: IndexOutOfBoundsException if there is no such field", () -> refuseFields((x, f) -> x.setItem(f, 0, 0)));
        test("setItem: IllegalArgumentException if the number is out of range", () -> refuseNumbers((x, n) -> x.setItem(2, 0, n)));
        test("setItem: UnsupportedOperationException if the field has no list", () -> {
            for (int field : new int[] {0, 1, 4}) {
                refuse(UNSUPPORTED, RefusalTests::rich, x -> x.setItem(field, 0, 0));
            }
        });
        test("setItem: NoSuchElementException if there is no such item", () -> {
            refuseOutside(ELEMENT, 0, 1, (x, place) -> x.setItem(2, place, 0));
            refuseOutside(ELEMENT, 0, 7, (x, place) -> x.setItem(3, place, 0));
            refuse(ELEMENT, RefusalTests::rich, x -> x.setItem(5, 0, 0));
        });
        test("setItem: no such field ahead of the number", () -> refuseFields((x, f) -> x.setItem(f, 0, 1000)));
        test("setItem: the number ahead of a field without a list", () -> refuse(ARGUMENT, RefusalTests::rich, x -> x.setItem(0, 0, 1000)));
        test("setItem: the number ahead of the item", () -> refuse(ARGUMENT, RefusalTests::rich, x -> x.setItem(2, 2, -1000)));
        test("setItem: a field without a list ahead of the item", () -> refuse(UNSUPPORTED, RefusalTests::rich, x -> x.setItem(4, -1, 0)));
        test("takeItem: IndexOutOfBoundsException if there is no such field", () -> refuseFields((x, f) -> x.takeItem(f, 0)));
        test("takeItem: UnsupportedOperationException if the field has no list", () -> {
            for (int field : new int[] {0, 1, 4}) {
                refuse(UNSUPPORTED, RefusalTests::rich, x -> x.takeItem(field, 0));
            }
        });
        test("takeItem: NoSuchElementException if there is no such item", () -> {
            refuseOutside(ELEMENT, 0, 1, (x, place) -> x.takeItem(2, place));
            refuseOutside(ELEMENT, 0, 7, (x, place) -> x.takeItem(3, place));
            refuse(ELEMENT, RefusalTests::rich, x -> x.takeItem(5, 0));
        });
        test("takeItem: no such field ahead of the item", () -> refuseFields((x, f) -> x.takeItem(f, -1)));
        test("takeItem: a field without a list ahead of the item", () -> refuse(UNSUPPORTED, RefusalTests::rich, x -> x.takeItem(1, 9)));
        test("items: IndexOutOfBoundsException if there is no such field", () -> refuseFields((x, f) -> x.items(f)));
        test("items: UnsupportedOperationException if the field has no list", () -> {
            for (int field : new int[] {0, 1, 4}) {
                refuse(UNSUPPORTED, RefusalTests::rich, x -> x.items(field));
            }
        });
    }

    private static void movedItems() {
        test("moveItem: IndexOutOfBoundsException if there is no such field", () -> refuseFields((x, f) -> x.moveItem(f, 0, 0)));
        test("moveItem: UnsupportedOperationException if the field has no list", () -> {
            for (int field : new int[] {0, 1, 4}) {
                refuse(UNSUPPORTED, RefusalTests::rich, x -> x.moveItem(field, 0, 0));
            }
        });
        test("moveItem: NoSuchElementException if there is no such item, for the first place", () -> {
            refuseOutside(ELEMENT, 0, 1, (x, place) -> x.moveItem(2, place, 0));
            refuseOutside(ELEMENT, 0, 7, (x, place) -> x.moveItem(3, place, 7));
        });
        test("moveItem: NoSuchElementException if there is no such item, for the second place", () -> {
            refuseOutside(ELEMENT, 0, 1, (x, place) -> x.moveItem(2, 0, place));
            refuseOutside(ELEMENT, 0, 7, (x, place) -> x.moveItem(3, 7, place));
        });
        test("moveItem: NoSuchElementException for both places", () -> {
            refuse(ELEMENT, RefusalTests::rich, x -> x.moveItem(5, 0, 0));
            refuse(ELEMENT, RefusalTests::rich, x -> x.moveItem(2, 2, 2));
        });
        test("moveItem: no such field ahead of the item", () -> refuseFields((x, f) -> x.moveItem(f, -1, 9)));
        test("moveItem: a field without a list ahead of the item", () -> refuse(UNSUPPORTED, RefusalTests::rich, x -> x.moveItem(0, -1, 9)));
    }

    // Nodes

    private static void refuseFull(Refused call) {
        refuse(STATE, RefusalTests::withFullNodes, call);
    }

    /** Numbers that no node has, or that one of a value has. */
    private static void refuseAsPart(Supplier<Weftpage> made, RefusedWith call) {
        int behind = made.get().nodes();
        for (int node : new int[] {VALUE, -1, behind, LEAST, MOST}) {
            refuse(INDEX, made, x -> call.on(x, node));
        }
    }

    /** The same where -1 stands for none. */
    private static void refuseAsOther(Supplier<Weftpage> made, RefusedWith call) {
        int behind = made.get().nodes();
        for (int node : new int[] {VALUE, -2, behind, LEAST, MOST}) {
            refuse(INDEX, made, x -> call.on(x, node));
        }
    }

    private static void refuseAsValue(Supplier<Weftpage> made, RefusedWith call) {
        int behind = made.get().nodes();
        for (int node : new int[] {PART, -1, behind, LEAST, MOST}) {
            refuse(INDEX, made, x -> call.on(x, node));
        }
    }

    private static void values() {
        test("field: IndexOutOfBoundsException if there is no such field", () -> refuseFields((x, f) -> x.field(f)));
        test("field: IllegalStateException if there are 100 nodes", () -> refuseFull(x -> x.field(0)));
        test("field: no such field ahead of 100 nodes", () -> refuse(INDEX, RefusalTests::withFullNodes, x -> x.field(6)));
        test("item: IllegalArgumentException if there is no such part", () -> {
            for (char c : "ajlmosuKNTI \u0000\uffff".toCharArray()) {
                refuse(ARGUMENT, RefusalTests::rich, x -> x.item(c));
            }
        });
        test("item: IllegalStateException if there are 100 nodes", () -> refuseFull(x -> x.item('k')));
        test("item: no such part ahead of 100 nodes", () -> refuse(ARGUMENT, RefusalTests::withFullNodes, x -> x.item('x')));
        test("argument: IllegalStateException if there are 100 nodes", () -> refuseFull(Weftpage::argument));
        test("number: IllegalArgumentException if it is out of range", () -> refuseNumbers((x, n) -> x.number(n)));
        test("number: IllegalStateException if there are 100 nodes", () -> refuseFull(x -> x.number(999)));
        test("number: the range ahead of 100 nodes", () -> refuse(ARGUMENT, RefusalTests::withFullNodes, x -> x.number(1000)));
    }

    private static void filters() {
        test("filter: IllegalArgumentException if there is no such kind", () -> {
            for (char c : "akmtvbe,*oq-LUCDP\u0000\uffff".toCharArray()) {
                refuse(ARGUMENT, RefusalTests::rich, x -> x.filter(c, VALUE, 0));
            }
        });
        test("filter: IllegalArgumentException if the number is out of range", () -> {
            for (char kind : "cd+".toCharArray()) {
                refuseOutside(ARGUMENT, 0, 99, (x, n) -> x.filter(kind, VALUE, n));
            }
        });
        test("filter: IndexOutOfBoundsException if there is no such node of a value", () -> {
            for (char kind : "lucd+p".toCharArray()) {
                refuseAsValue(RefusalTests::rich, (x, v) -> x.filter(kind, v, 0));
            }
        });
        test("filter: IllegalStateException if there are 100 nodes", () -> {
            for (char kind : "lucd+p".toCharArray()) {
                refuseFull(x -> x.filter(kind, VALUE, 0));
            }
        });
        test("filter: no such kind ahead of the node and of 100 nodes", () -> {
            refuse(ARGUMENT, RefusalTests::rich, x -> x.filter('x', NO_NODE, 0));
            refuse(ARGUMENT, RefusalTests::rich, x -> x.filter('x', PART, 0));
            refuse(ARGUMENT, RefusalTests::withFullNodes, x -> x.filter('x', VALUE, 0));
        });
        test("filter: the number ahead of the node and of 100 nodes", () -> {
            refuse(ARGUMENT, RefusalTests::rich, x -> x.filter('c', NO_NODE, 100));
            refuse(ARGUMENT, RefusalTests::rich, x -> x.filter('d', PART, -1));
            refuse(ARGUMENT, RefusalTests::withFullNodes, x -> x.filter('+', VALUE, 100));
        });
        test("filter: the node ahead of 100 nodes", () -> refuseAsValue(RefusalTests::withFullNodes, (x, v) -> x.filter('l', v, 100)));
    }

    private static void leaves() {
        test("piece: IllegalStateException if there are 100 nodes", () -> refuseFull(Weftpage::piece));
        test("slot: IllegalStateException if there are 100 nodes", () -> refuseFull(Weftpage::slot));
        test("up: IllegalStateException if there are 100 nodes", () -> refuseFull(Weftpage::up));
        test("hole: IndexOutOfBoundsException if there is no such node of a value", () -> refuseAsValue(RefusalTests::rich, (x, v) -> x.hole(v)));
        test("hole: IllegalStateException if there are 100 nodes", () -> refuseFull(x -> x.hole(VALUE)));
        test("hole: the node ahead of 100 nodes", () -> refuseAsValue(RefusalTests::withFullNodes, (x, v) -> x.hole(v)));
    }

    private static void branches(Supplier<Weftpage> made, String when) {
        test("row: IndexOutOfBoundsException for either part" + when, () -> {
            refuseAsPart(made, (x, p) -> x.row(p, PART));
            refuseAsPart(made, (x, p) -> x.row(PART, p));
        });
        test("choice: IndexOutOfBoundsException for the value or either part" + when, () -> {
            refuseAsValue(made, (x, v) -> x.choice(v, PART, PART));
            refuseAsPart(made, (x, p) -> x.choice(VALUE, p, PART));
            refuseAsOther(made, (x, p) -> x.choice(VALUE, PART, p));
        });
        test("loop: IndexOutOfBoundsException for the value or either part" + when, () -> {
            refuseAsValue(made, (x, v) -> x.loop(v, PART, PART));
            refuseAsPart(made, (x, p) -> x.loop(VALUE, p, PART));
            refuseAsOther(made, (x, p) -> x.loop(VALUE, PART, p));
        });
        test("guard: IndexOutOfBoundsException for either part" + when, () -> {
            refuseAsPart(made, (x, p) -> x.guard(p, PART));
            refuseAsPart(made, (x, p) -> x.guard(PART, p));
        });
        test("partial: IndexOutOfBoundsException if there is no such template" + when, () -> {
            for (int template : new int[] {-1, 4, 8, LEAST, MOST}) {
                refuse(INDEX, made, x -> x.partial(template, -1, -1));
            }
        });
        test("partial: IndexOutOfBoundsException for the argument or the fill" + when, () -> {
            for (int node : new int[] {PART, -2, made.get().nodes(), LEAST, MOST}) {
                refuse(INDEX, made, x -> x.partial(RIGHT, node, -1));
            }
            refuseAsOther(made, (x, p) -> x.partial(RIGHT, -1, p));
        });
        test("block: IndexOutOfBoundsException if there is no such node" + when, () -> refuseAsPart(made, (x, p) -> x.block(3, p)));
        test("later: IndexOutOfBoundsException if there is no such node" + when, () -> refuseAsPart(made, (x, p) -> x.later(3, p)));
    }

    private static void emptyBook() {
        test("each call that takes a node or a template: IndexOutOfBoundsException on a new object", () -> {
            Refused[] calls = {x -> x.filter('l', 0, 0), x -> x.hole(0), x -> x.row(0, 0), x -> x.choice(0, 0, 0), x -> x.choice(0, 0, -1),
                x -> x.loop(0, 0, 0), x -> x.loop(0, 0, -1), x -> x.partial(0, -1, -1), x -> x.partial(0, 0, 0), x -> x.block(0, 0),
                x -> x.guard(0, 0), x -> x.later(0, 0), x -> x.template(0), x -> x.extend(0), x -> x.override(0, 0, 0), x -> x.check(0),
                x -> x.wrong(0), x -> x.around(0, 0), x -> x.readers(0, 0), x -> x.make(0)};
            for (Refused call : calls) {
                refuse(INDEX, Weftpage::new, call);
            }
        });
        test("each call that takes a node: IndexOutOfBoundsException for the node that it would make", () -> {
            Refused[] calls = {x -> x.filter('l', x.nodes(), 0), x -> x.hole(x.nodes()), x -> x.row(x.nodes(), PART), x -> x.row(PART, x.nodes()),
                x -> x.choice(x.nodes(), PART, PART), x -> x.loop(VALUE, x.nodes(), PART), x -> x.partial(RIGHT, x.nodes(), -1),
                x -> x.partial(RIGHT, -1, x.nodes()), x -> x.block(0, x.nodes()), x -> x.guard(x.nodes(), x.nodes()), x -> x.later(0, x.nodes())};
            for (Refused call : calls) {
                refuse(INDEX, RefusalTests::rich, call);
            }
        });
    }

    private static void fullBranches() {
        test("row: IllegalStateException if there are 100 nodes", () -> refuseFull(x -> x.row(PART, PART)));
        test("choice: IllegalStateException if there are 100 nodes", () -> refuseFull(x -> x.choice(VALUE, PART, -1)));
        test("loop: IllegalStateException if there are 100 nodes", () -> refuseFull(x -> x.loop(VALUE, PART, -1)));
        test("partial: IllegalStateException if there are 100 nodes", () -> refuseFull(x -> x.partial(RIGHT, -1, -1)));
        test("block: IllegalStateException if there are 100 nodes", () -> refuseFull(x -> x.block(0, PART)));
        test("guard: IllegalStateException if there are 100 nodes", () -> refuseFull(x -> x.guard(PART, PART)));
        test("later: IllegalStateException if there are 100 nodes", () -> refuseFull(x -> x.later(0, PART)));
    }

    private static void names() {
        test("block: IllegalArgumentException if there is no such name", () -> refuseOutside(ARGUMENT, 0, 3, (x, name) -> x.block(name, PART)));
        test("block: the name ahead of the node", () -> {
            refuse(ARGUMENT, RefusalTests::rich, x -> x.block(4, NO_NODE));
            refuse(ARGUMENT, RefusalTests::rich, x -> x.block(-1, VALUE));
        });
        test("block: the name ahead of 100 nodes", () -> refuse(ARGUMENT, RefusalTests::withFullNodes, x -> x.block(4, PART)));
        test("later: IllegalArgumentException if there is no such part", () -> refuseOutside(ARGUMENT, 0, 3, (x, part) -> x.later(part, PART)));
        test("later: the part ahead of the node", () -> {
            refuse(ARGUMENT, RefusalTests::rich, x -> x.later(4, NO_NODE));
            refuse(ARGUMENT, RefusalTests::rich, x -> x.later(-1, VALUE));
        });
        test("later: the part ahead of 100 nodes", () -> refuse(ARGUMENT, RefusalTests::withFullNodes, x -> x.later(4, PART)));
        test("comes: IllegalArgumentException if there is no such part", () -> refuseOutside(ARGUMENT, 0, 3, (x, part) -> x.comes(part)));
    }

    // Templates

    private static void refuseTemplates(RefusedWith call) {
        for (int template : new int[] {-1, 4, NO_TEMPLATE, 8, LEAST, MOST}) {
            refuse(INDEX, RefusalTests::rich, x -> call.on(x, template));
        }
        for (int template : new int[] {-1, 8, MOST}) {
            refuse(INDEX, RefusalTests::withFullTemplates, x -> call.on(x, template));
        }
        refuse(INDEX, Weftpage::new, x -> call.on(x, 0));
    }

    private static void templates() {
        test("template: IndexOutOfBoundsException if there is no such node, or it is a value", () -> {
            refuseAsPart(RefusalTests::rich, (x, p) -> x.template(p));
            refuse(INDEX, Weftpage::new, x -> x.template(0));
        });
        test("template: IllegalStateException if there are 8 templates", () -> refuse(STATE, RefusalTests::withFullTemplates, x -> x.template(PART)));
        test("template: the node ahead of 8 templates", () -> refuseAsPart(RefusalTests::withFullTemplates, (x, p) -> x.template(p)));
        test("extend: IndexOutOfBoundsException if there is no such template", () -> refuseTemplates((x, t) -> x.extend(t)));
        test("extend: IllegalStateException if there are 8 templates", () -> refuse(STATE, RefusalTests::withFullTemplates, x -> x.extend(7)));
        test("check: IndexOutOfBoundsException if there is no such template", () -> refuseTemplates((x, t) -> x.check(t)));
        test("wrong: IndexOutOfBoundsException if there is no such template", () -> refuseTemplates((x, t) -> x.wrong(t)));
        test("wrong: NoSuchElementException if it is right", () -> {
            refuse(ELEMENT, RefusalTests::rich, x -> x.wrong(RIGHT));
            refuse(ELEMENT, RefusalTests::rich, x -> x.wrong(EXTENDING));
            refuse(ELEMENT, RefusalTests::rich, x -> x.wrong(FAILING));
        });
        test("around: IndexOutOfBoundsException if there is no such template", () -> refuseTemplates((x, t) -> x.around(t, PART)));
        test("around: IndexOutOfBoundsException if there is no such node", () -> {
            int behind = rich().nodes();
            refuseOutside(INDEX, 0, behind - 1, (x, n) -> x.around(RIGHT, n));
            for (int node : outside(0, 99)) {
                refuse(INDEX, RefusalTests::withFullNodes, x -> x.around(WRONG, node));
            }
        });
        test("around: NoSuchElementException if it is not gone through", () -> refuse(ELEMENT, RefusalTests::rich, x -> x.around(WRONG, PART)));
        test("around: NoSuchElementException if it is a value", () -> refuse(ELEMENT, RefusalTests::rich, x -> x.around(RIGHT, VALUE)));
        test("readers: IndexOutOfBoundsException if there is no such template", () -> refuseTemplates((x, t) -> x.readers(t, 0)));
        test("readers: IndexOutOfBoundsException if there is no such field", () -> refuseFields((x, f) -> x.readers(RIGHT, f)));
    }

    private static void overrides() {
        test("override: IndexOutOfBoundsException if there is no such template", () -> refuseTemplates((x, t) -> x.override(t, 0, PART)));
        test("override: IndexOutOfBoundsException if there is no such node, or it is a value",
            () -> refuseAsPart(RefusalTests::rich, (x, p) -> x.override(EXTENDING, 0, p)));
        test("override: IllegalArgumentException if there is no such name",
            () -> refuseOutside(ARGUMENT, 0, 3, (x, name) -> x.override(EXTENDING, name, PART)));
        test("override: UnsupportedOperationException if the template does not extend another one", () -> {
            refuse(UNSUPPORTED, RefusalTests::rich, x -> x.override(RIGHT, 0, PART));
            refuse(UNSUPPORTED, RefusalTests::rich, x -> x.override(FAILING, 3, PART));
        });
        test("override: the template ahead of the name", () -> refuseTemplates((x, t) -> x.override(t, 4, PART)));
        test("override: the node ahead of the name", () -> refuseAsPart(RefusalTests::rich, (x, p) -> x.override(EXTENDING, -1, p)));
        test("override: the node ahead of a template without a base", () -> refuseAsPart(RefusalTests::rich, (x, p) -> x.override(RIGHT, 0, p)));
        test("override: the name ahead of a template without a base",
            () -> refuseOutside(ARGUMENT, 0, 3, (x, name) -> x.override(RIGHT, name, PART)));
    }

    // Output

    private static void making() {
        test("make: IndexOutOfBoundsException if there is no such template", () -> refuseTemplates((x, t) -> x.make(t)));
        test("make: UnsupportedOperationException if it is wrong", () -> {
            refuse(UNSUPPORTED, RefusalTests::rich, x -> x.make(WRONG));
            refuse(UNSUPPORTED, RefusalTests::failed, x -> x.make(WRONG));
        });
        test("refresh: IllegalStateException if no template was made", () -> {
            refuse(STATE, Weftpage::new, Weftpage::refresh);
            refuse(STATE, RefusalTests::unmade, Weftpage::refresh);
        });
        test("refresh: UnsupportedOperationException if it is wrong", () -> refuse(UNSUPPORTED, RefusalTests::withWrongPresent, Weftpage::refresh));
    }

    private static Weftpage unmade() {
        Weftpage x = new Weftpage();
        data(x);
        x.field(0);
        x.template(x.hole(0));
        x.template(piece(x, "<"));
        return x;
    }

    /** Made of a template that is wrong, which is refused, so that none was. */
    private static Weftpage refusedOnly() {
        Weftpage x = unmade();
        thrown(UNSUPPORTED, () -> x.make(1));
        return x;
    }

    private static void withoutOutput(Supplier<Weftpage> made, String when) {
        test("length: IllegalStateException " + when, () -> refuse(STATE, made, Weftpage::length));
        test("letterAt: IllegalStateException " + when + ", ahead of the place", () -> {
            refuse(STATE, made, x -> x.letterAt(0));
            refuse(STATE, made, x -> x.letterAt(-1));
            refuse(STATE, made, x -> x.letterAt(MOST));
        });
        test("writerOf: IllegalStateException " + when + ", ahead of the place", () -> {
            refuse(STATE, made, x -> x.writerOf(0));
            refuse(STATE, made, x -> x.writerOf(-1));
            refuse(STATE, made, x -> x.writerOf(MOST));
        });
        test("holeShare: IllegalStateException " + when, () -> refuse(STATE, made, Weftpage::holeShare));
        test("changeAt, changedNode, changedKey: IndexOutOfBoundsException " + when, () -> {
            for (int index : new int[] {-1, 0, 1}) {
                refuse(INDEX, made, x -> x.changeAt(index));
                refuse(INDEX, made, x -> x.changedNode(index));
                refuse(INDEX, made, x -> x.changedKey(index));
            }
        });
    }

    private static Weftpage refreshFailed() {
        Weftpage x = new Weftpage();
        x.setNumber(0, 1);
        x.template(hole(x, 0));
        x.make(0);
        x.setNumber(0, 2);
        x.refresh();
        x.setList(0);
        x.refresh();
        return x;
    }

    private static void reading() {
        int length = rich().length();
        int changes = rich().changes();
        test("letterAt: IndexOutOfBoundsException if there is no such place", () -> refuseOutside(INDEX, 0, length - 1, (x, p) -> x.letterAt(p)));
        test("writerOf: IndexOutOfBoundsException if there is no such place", () -> refuseOutside(INDEX, 0, length - 1, (x, p) -> x.writerOf(p)));
        test("changeAt: IndexOutOfBoundsException if there is no such change", () -> refuseOutside(INDEX, 0, changes - 1, (x, i) -> x.changeAt(i)));
        test("changedNode: IndexOutOfBoundsException if there is no such change",
            () -> refuseOutside(INDEX, 0, changes - 1, (x, i) -> x.changedNode(i)));
        test("changedKey: IndexOutOfBoundsException if there is no such change",
            () -> refuseOutside(INDEX, 0, changes - 1, (x, i) -> x.changedKey(i)));
        test("changedKey: UnsupportedOperationException if its kind is 'r'", () -> {
            is(rich().changeAt(0), 'r');
            refuse(UNSUPPORTED, RefusalTests::rich, x -> x.changedKey(0));
        });
        test("fault: NoSuchElementException if it did not fail", () -> refuse(ELEMENT, RefusalTests::rich, Weftpage::fault));
        test("fault: NoSuchElementException if there was none", () -> {
            refuse(ELEMENT, Weftpage::new, Weftpage::fault);
            refuse(ELEMENT, RefusalTests::unmade, Weftpage::fault);
            refuse(ELEMENT, RefusalTests::refusedOnly, Weftpage::fault);
        });
        test("meanChanges: ArithmeticException if there were none", () -> {
            refuse(ARITHMETIC, Weftpage::new, Weftpage::meanChanges);
            refuse(ARITHMETIC, RefusalTests::unmade, Weftpage::meanChanges);
        });
    }

    static void all() {
        rowAndFields();
        addedItems();
        otherItems();
        movedItems();
        values();
        filters();
        leaves();
        branches(RefusalTests::rich, "");
        branches(RefusalTests::withFullNodes, ", ahead of 100 nodes");
        emptyBook();
        fullBranches();
        names();
        templates();
        overrides();
        making();
        withoutOutput(Weftpage::new, "of a new object");
        withoutOutput(RefusalTests::unmade, "if none was made");
        withoutOutput(RefusalTests::refusedOnly, "if what was to be made is wrong");
        withoutOutput(RefusalTests::failed, "if what was made failed");
        withoutOutput(RefusalTests::refreshFailed, "if a refreshing failed");
        reading();
    }

    public static void main(String[] args) {
        all();
        end("RefusalTests");
    }
}
