/**
 * For the promises 1 to 51, one test for each sentence that names an edge: the last values that are
 * allowed, on both sides, and the empty and the full. What is refused stands in RefusalTests.
 */
public final class EdgeTests extends Checks {
    private static final String LONGEST = "abcdefghijklmnopqrstuvwx";

    // What the tests below share

    private static String shownItems(Weftpage x, int field) {
        int each = rows(x, x.hole(x.item('k')), piece(x, ":"), x.hole(x.item('n')), x.hole(x.item('t')), piece(x, " "));
        return made(x, x.loop(x.field(field), each, -1));
    }

    private static void eight(Weftpage x, int field) {
        x.setList(field);
        for (int key = 0; key < 8; key++) {
            x.addItem(field, key, key);
        }
    }

    private static String keys(Weftpage x, int field) {
        StringBuilder b = new StringBuilder();
        while (x.items(field) > 0) {
            b.append(x.takeItem(field, 0));
        }
        return b.toString();
    }

    private static void fill(Weftpage x, int nodes) {
        while (x.nodes() < nodes) {
            x.slot();
        }
    }

    // Data

    private static void newObjects() {
        test("1: a new language has no nodes and templates, and fields that have nothing.", () -> {
            Weftpage x = new Weftpage();
            is(x.nodes(), 0);
            thrown(INDEX, () -> x.hole(0));
            thrown(INDEX, () -> x.check(0));
            for (int f = 0; f < 6; f++) {
                is(x.has(f), '-');
            }
            is(x.type('a'), 1);
        });
        test("1: objects have nothing in common.", () -> {
            Weftpage x = new Weftpage();
            Weftpage y = new Weftpage();
            type(x, "ab");
            x.setNumber(0, 1);
            x.comes(0);
            x.make(x.template(x.piece()));
            is(y.type('c'), 1);
            is(y.has(0), '-');
            is(y.nodes(), 0);
            is(y.comes(0), false);
            thrown(STATE, y::length);
        });
    }

    private static void rows() {
        test("2: type returns how many letters the row has, 1 to 24.", () -> {
            Weftpage x = new Weftpage();
            for (int i = 1; i <= 24; i++) {
                is(x.type(LONGEST.charAt(i - 1)), i);
            }
            thrown(STATE, () -> x.type('y'));
            x.setText(0);
            is(made(x, hole(x, 0)), LONGEST);
        });
        test("2: the row is empty behind setText, addItem and piece, full or not.", () -> {
            Weftpage x = new Weftpage();
            x.setList(1);
            for (String text : new String[] {"a", LONGEST}) {
                type(x, text);
                x.setText(0);
                is(x.type('b'), 1);
                type(x, text.substring(1));
                x.addItem(1, text.length(), 0);
                is(x.type('c'), 1);
                type(x, text.substring(1));
                x.piece();
                is(x.type('d'), 1);
                x.piece();
            }
        });
        test("2: the row is left by all other calls.", () -> {
            Weftpage x = new Weftpage();
            type(x, "ab");
            x.setNumber(0, 1);
            x.setList(0);
            x.clear(0);
            x.template(x.row(x.slot(), x.hole(x.field(0))));
            x.make(0);
            x.refresh();
            is(x.type('c'), 3);
        });
    }

    private static void fields() {
        test("3: setNumber allows -999 and 999, of the fields 0 and 5.", () -> {
            Weftpage x = new Weftpage();
            is(x.setNumber(0, -999), '-');
            is(x.setNumber(5, 999), '-');
            is(made(x, x.row(hole(x, 0), hole(x, 5))), "-999999");
        });
        test("3 to 6: each returns what it had, be it nothing, 0, the empty text or an empty list.", () -> {
            for (int field = 0; field < 6; field += 5) {
                Weftpage x = new Weftpage();
                is(x.setNumber(field, 0), '-');
                is(x.setNumber(field, 0), 'n');
                is(x.setText(field), 'n');
                is(x.setText(field), 't');
                is(x.setList(field), 't');
                is(x.setList(field), 'l');
                is(x.clear(field), 'l');
                is(x.clear(field), '-');
                is(x.setList(field), '-');
                is(x.setNumber(field, 1), 'l');
                is(x.clear(field), 'n');
                is(x.setText(field), '-');
                is(x.setNumber(field, 1), 't');
                is(x.setList(field), 'n');
                is(x.setText(field), 'l');
                is(x.clear(field), 't');
            }
        });
        test("4: setText of the empty row is the empty text, of the full one 24 letters.", () -> {
            Weftpage x = new Weftpage();
            int l = x.hole(x.filter('l', x.field(0), 0));
            x.setText(0);
            is(made(x, l), "0");
            setText(x, 0, LONGEST);
            is(made(x, l), "24");
            x.setText(0);
            is(made(x, l), "0");
        });
        test("4: a text stays as it was when the row is typed into again.", () -> {
            Weftpage x = new Weftpage();
            setText(x, 0, "abc");
            setText(x, 1, "xy");
            type(x, "z");
            is(made(x, x.row(hole(x, 0), hole(x, 1))), "abcxy");
        });
        test("5: setList of a field with a list takes its items away.", () -> {
            Weftpage x = new Weftpage();
            eight(x, 5);
            is(x.setList(5), 'l');
            is(x.items(5), 0);
            is(x.addItem(5, 0, 0), 1);
        });
        test("6, 7: has tells '-' behind clear, and what was given behind the others.", () -> {
            Weftpage x = new Weftpage();
            x.setNumber(5, 0);
            is(x.has(5), 'n');
            x.setText(5);
            is(x.has(5), 't');
            x.setList(5);
            is(x.has(5), 'l');
            x.clear(5);
            is(x.has(5), '-');
            thrown(UNSUPPORTED, () -> x.items(5));
        });
    }

    private static void items() {
        test("8: addItem returns 1 to 8, and adds behind the list.", () -> {
            Weftpage x = new Weftpage();
            x.setList(5);
            for (int i = 1; i <= 8; i++) {
                is(x.addItem(5, 10 - i, 0), i);
            }
            is(keys(x, 5), "98765432");
        });
        test("8: addItem allows the keys 0 and 99, and the numbers -999 and 999.", () -> {
            Weftpage x = new Weftpage();
            x.setList(0);
            is(add(x, 0, 0, -999, LONGEST), 1);
            is(add(x, 0, 99, 999, ""), 2);
            is(shownItems(x, 0), "0:-999" + LONGEST + " 99:999 ");
        });
        test("9: setItem allows -999 and 999, at the first and the last place; returns the number before.", () -> {
            Weftpage x = new Weftpage();
            eight(x, 5);
            is(x.setItem(5, 0, -999), 0);
            is(x.setItem(5, 7, 999), 7);
            is(x.setItem(5, 0, 1), -999);
            is(x.setItem(5, 7, 2), 999);
            is(shownItems(x, 5), "0:1 1:1 2:2 3:3 4:4 5:5 6:6 7:2 ");
        });
        test("10: takeItem of the first, of the last and of the only place; those behind come up.", () -> {
            Weftpage x = new Weftpage();
            eight(x, 0);
            is(x.takeItem(0, 7), 7);
            is(x.takeItem(0, 0), 0);
            is(x.takeItem(0, 3), 4);
            is(x.items(0), 5);
            is(keys(x, 0), "12356");
            thrown(ELEMENT, () -> x.takeItem(0, 0));
            is(x.has(0), 'l');
        });
        test("11: moveItem from the first place to the last, back, to the next, and to the same.", () -> {
            int[][] moves = {{0, 7}, {7, 0}, {0, 1}, {1, 0}, {6, 7}, {7, 6}, {3, 3}, {0, 0}, {7, 7}, {2, 5}, {5, 2}};
            String[] due = {"12345670", "70123456", "10234567", "10234567", "01234576", "01234576", "01234567", "01234567", "01234567",
                "01345267", "01523467"};
            for (int i = 0; i < moves.length; i++) {
                Weftpage x = new Weftpage();
                eight(x, 0);
                is(x.moveItem(0, moves[i][0], moves[i][1]), moves[i][0]);
                is(keys(x, 0), due[i]);
            }
            Weftpage x = new Weftpage();
            x.setList(0);
            x.addItem(0, 9, 0);
            is(x.moveItem(0, 0, 0), 9);
            is(keys(x, 0), "9");
        });
        test("12: items of an empty list and of a full one.", () -> {
            Weftpage x = new Weftpage();
            x.setList(0);
            is(x.items(0), 0);
            eight(x, 5);
            is(x.items(5), 8);
        });
    }

    // Nodes

    private interface Maker {
        int node(Weftpage x);
    }

    /** Holds that a kind of node can be the first one that the others allow, and the hundredth. */
    private static void asLast(Maker maker) {
        Weftpage x = new Weftpage();
        x.field(0);
        x.template(x.piece());
        is(maker.node(x), 2);
        fill(x, 99);
        is(maker.node(x), 99);
        is(x.nodes(), 100);
        thrown(STATE, () -> maker.node(x));
        is(x.nodes(), 100);
    }

    private static void nodes() {
        test("13: field makes the values of the fields 0 and 5.", () -> {
            Weftpage x = new Weftpage();
            x.setNumber(0, 4);
            x.setNumber(5, 6);
            is(x.field(0), 0);
            is(x.field(5), 1);
            is(made(x, x.row(x.hole(0), x.hole(1))), "46");
        });
        test("16: number makes -999, 0 and 999.", () -> {
            Weftpage x = new Weftpage();
            is(made(x, rows(x, x.hole(x.number(-999)), x.hole(x.number(0)), x.hole(x.number(999)))), "-9990999");
        });
        test("17: n from 0 to 99; of no meaning for 'l', 'u' and 'p'.", () -> {
            for (char kind : "cd+".toCharArray()) {
                Weftpage x = new Weftpage();
                x.field(0);
                is(x.filter(kind, 0, 0), 1);
                is(x.filter(kind, 0, 99), 2);
            }
            for (int n : new int[] {Integer.MIN_VALUE, -1, 0, 99, 100, Integer.MAX_VALUE}) {
                Weftpage x = new Weftpage();
                setText(x, 0, "ab");
                x.setNumber(1, 2);
                int l = x.hole(x.filter('l', x.field(0), n));
                int u = x.hole(x.filter('u', x.field(0), n));
                int p = x.hole(x.filter('p', x.field(1), n));
                is(made(x, rows(x, l, u, p)), "2ABs");
            }
        });
        test("18: piece of the empty row, and of the full one.", () -> {
            Weftpage x = new Weftpage();
            int empty = x.piece();
            is(made(x, empty), "");
            is(made(x, piece(x, LONGEST)), LONGEST);
            is(made(x, empty), "");
        });
        test("13 to 28: each returns the number of the node, up to 99, and makes no hundred and first.", () -> {
            asLast(x -> x.field(0));
            asLast(x -> x.item('k'));
            asLast(Weftpage::argument);
            asLast(x -> x.number(0));
            asLast(x -> x.filter('l', 0, 0));
            asLast(Weftpage::piece);
            asLast(x -> x.hole(0));
            asLast(x -> x.row(1, 1));
            asLast(x -> x.choice(0, 1, 1));
            asLast(x -> x.loop(0, 1, 1));
            asLast(x -> x.partial(0, 0, 1));
            asLast(Weftpage::slot);
            asLast(x -> x.block(0, 1));
            asLast(Weftpage::up);
            asLast(x -> x.guard(1, 1));
            asLast(x -> x.later(0, 1));
        });
        test("20 to 28: the node 0 can be a part, and the node 98 of the last one.", () -> {
            Weftpage x = new Weftpage();
            piece(x, "a");
            is(made(x, x.row(0, x.guard(0, x.later(0, 0)))), "aa");
            fill(x, 98);
            int last = piece(x, "z");
            is(made(x, x.row(0, last)), "az");
        });
    }

    private static void parts() {
        test("21, 22: the other node, or -1.", () -> {
            Weftpage x = new Weftpage();
            int f = x.field(0);
            int a = piece(x, "a");
            is(made(x, rows(x, x.choice(f, a, -1), x.choice(f, a, a), x.loop(f, a, -1), x.loop(f, a, a))), "aa");
        });
        test("23: an argument, or -1, and a fill, or -1.", () -> {
            Weftpage x = new Weftpage();
            int t = x.template(x.row(x.hole(x.argument()), x.slot()));
            int v = x.number(3);
            int a = piece(x, "a");
            int all = rows(x, x.partial(t, -1, -1), x.partial(t, v, -1), x.partial(t, -1, a), x.partial(t, v, a));
            is(made(x, all), "3a3a");
        });
        test("23: a partial of the first template and of the eighth.", () -> {
            Weftpage x = new Weftpage();
            int a = piece(x, "a");
            x.template(a);
            int ofFirst = x.partial(0, -1, -1);
            for (int i = 1; i < 8; i++) {
                x.template(i == 7 ? x.row(a, ofFirst) : a);
            }
            int last = x.partial(7, -1, -1);
            thrown(STATE, () -> x.template(last));
            is(made2(x, 7), "aa");
            is(x.around(7, ofFirst), 't');
        });
        test("25, 28: the names 0 and 3, the later parts 0 and 3.", () -> {
            Weftpage x = new Weftpage();
            int a = piece(x, "a");
            int t = x.template(rows(x, x.block(0, a), x.block(3, a), x.later(0, a), x.later(3, a)));
            is(made2(x, t), "aa");
            x.comes(3);
            is(made2(x, t), "aaa");
            x.comes(0);
            is(made2(x, t), "aaaa");
        });
        test("29: nodes returns 0, 1, and 100; a refused call makes none.", () -> {
            Weftpage x = new Weftpage();
            is(x.nodes(), 0);
            x.slot();
            is(x.nodes(), 1);
            thrown(INDEX, () -> x.hole(0));
            is(x.nodes(), 1);
            fill(x, 100);
            is(x.nodes(), 100);
            thrown(STATE, x::slot);
            is(x.nodes(), 100);
        });
    }

    // Templates

    private static void templates() {
        test("30: templates of the nodes 0 and 99, numbered from 0 to 7.", () -> {
            Weftpage x = new Weftpage();
            piece(x, "a");
            is(x.template(0), 0);
            fill(x, 99);
            piece(x, "z");
            is(x.template(99), 1);
            for (int i = 2; i < 8; i++) {
                is(x.template(0), i);
            }
            is(made2(x, 0) + made2(x, 1) + made2(x, 7), "aza");
        });
        test("31: extends the first template, and the one just made.", () -> {
            Weftpage x = new Weftpage();
            x.template(piece(x, "a"));
            is(x.extend(0), 1);
            for (int i = 2; i < 8; i++) {
                is(x.extend(i - 1), i);
            }
            is(made2(x, 7), "a");
        });
        test("32: override of the names 0 and 3, in the eighth template, by the nodes 0 and 99; whether there was one.", () -> {
            Weftpage x = new Weftpage();
            piece(x, "a");
            x.template(x.row(x.block(0, x.piece()), x.block(3, x.piece())));
            for (int i = 1; i < 8; i++) {
                x.extend(0);
            }
            fill(x, 99);
            piece(x, "z");
            is(x.override(7, 0, 0), false);
            is(x.override(7, 3, 99), false);
            is(made2(x, 7), "az");
            is(x.override(7, 0, 99), true);
            is(x.override(7, 0, 99), true);
            is(x.override(7, 3, 0), true);
            is(made2(x, 7), "za");
            is(x.override(6, 3, 0), false);
        });
        test("33: check of the first template and of the eighth; again behind an override.", () -> {
            Weftpage x = new Weftpage();
            int block = x.block(0, x.piece());
            x.template(block);
            for (int i = 1; i < 8; i++) {
                x.extend(i - 1);
            }
            is(x.check(0), 'o');
            is(x.check(7), 'o');
            x.override(1, 0, piece(x, "<"));
            is(x.check(0), 'o');
            is(x.check(7), 'e');
            is(x.check(1), 'e');
            x.override(2, 0, block);
            is(x.check(2), 'r');
            is(x.check(1), 'e');
            x.override(7, 0, x.piece());
            is(x.check(7), 'o');
            is(x.check(6), 'r');
        });
        test("34: the node that is wrong, the node 0 and the node 99; of 'e' that of the lowest template.", () -> {
            Weftpage x = new Weftpage();
            piece(x, "<");
            int v = x.field(0);
            x.template(0);
            for (int i = 1; i < 7; i++) {
                x.extend(i - 1);
            }
            is(checked(x, 0), "e0");
            is(checked(x, 6), "e0");
            fill(x, 98);
            x.hole(v);
            x.row(0, 98);
            is(checked(x, x.template(99)), "g98");
        });
        test("34: of 'e' the template's own node, be it the node 99, or that of the lowest one that it extends.", () -> {
            Weftpage x = new Weftpage();
            int open = piece(x, "<a");
            fill(x, 99);
            x.row(open, open);
            x.template(99);
            x.template(x.nodes() - 2);
            is(checked(x, 0), "e99");
            x.extend(0);
            is(checked(x, x.extend(2)), "e99");
            Weftpage y = new Weftpage();
            int block = y.block(0, y.piece());
            int root = y.row(y.piece(), block);
            int one = y.extend(y.template(root));
            y.override(one, 0, piece(y, "<s>"));
            is(checked(y, one), "e" + root);
            is(checked(y, y.extend(one)), "e" + root);
        });
    }

    private static void surroundings() {
        test("35: around of the nodes 0 and 99.", () -> {
            Weftpage x = new Weftpage();
            piece(x, "<a>");
            fill(x, 99);
            x.row(0, 98);
            int t = x.template(99);
            is(x.around(t, 0), 't');
            is(x.around(t, 99), 't');
            is(x.around(t, 98), 't');
            thrown(ELEMENT, () -> x.around(t, 97));
        });
        test("35: each letter of surroundings; where a node begins, and where it is first gone through.", () -> {
            Weftpage x = new Weftpage();
            int tag = piece(x, "<a b=\"");
            int mid = piece(x, "\" h=\"");
            int shut = piece(x, "\"");
            int end = piece(x, "><s><");
            int last = piece(x, "<a");
            int unscript = piece(x, "</s>");
            int slot = x.slot();
            int again = rows(x, tag, slot, mid, shut, end, last, unscript, slot);
            int t = x.template(again);
            is("" + x.around(t, tag) + x.around(t, mid) + x.around(t, shut) + x.around(t, end) + x.around(t, last) + x.around(t, unscript), "tqugyx");
            is(x.around(t, slot), 'q');
            is(x.around(t, again), 't');
        });
        test("35: up to what is wrong, this one counted; a value is none.", () -> {
            Weftpage x = new Weftpage();
            int v = x.field(0);
            int tag = piece(x, "<a");
            int h = x.hole(v);
            int late = x.slot();
            int t = x.template(rows(x, tag, h, late));
            is(x.around(t, tag), 't');
            is(x.around(t, h), 'g');
            thrown(ELEMENT, () -> x.around(t, late));
            thrown(ELEMENT, () -> x.around(t, v));
        });
        test("36: readers of the fields 0 and 5: holes, choices and loops, each node counted once.", () -> {
            for (int field = 0; field < 6; field += 5) {
                Weftpage x = new Weftpage();
                int f = x.field(field);
                int h = x.hole(f);
                is(x.readers(x.template(x.slot()), field), 0);
                is(x.readers(x.template(h), field), 1);
                is(x.readers(x.template(rows(x, h, h, h)), field), 1);
                int other = x.hole(x.field(3));
                is(x.readers(x.template(rows(x, x.choice(f, other, -1), x.loop(f, other, -1), h, x.hole(f))), field), 4);
                is(x.readers(3, 3), 1);
                is(x.readers(3, 4), 0);
            }
        });
        test("36: also by filters, also of filters; not by items and numbers.", () -> {
            Weftpage x = new Weftpage();
            int v = x.field(2);
            for (char kind : "lucd+p".toCharArray()) {
                v = x.filter(kind, v, 0);
            }
            int t = x.template(rows(x, x.hole(v), x.hole(x.filter('l', x.item('t'), 0)), x.hole(x.number(2))));
            is(x.readers(t, 2), 1);
            is(x.readers(t, 0), 0);
        });
        test("36: by arguments, of which it counts for all that reads them in the partial, but not for the partial.", () -> {
            Weftpage x = new Weftpage();
            int a = x.argument();
            int reads = rows(x, x.hole(a), x.choice(x.filter('l', a, 0), x.piece(), -1), x.loop(a, x.piece(), -1));
            int inner = x.template(reads);
            int f = x.field(1);
            is(x.readers(inner, 1), 0);
            is(x.readers(x.template(x.partial(inner, f, -1)), 1), 3);
            is(x.readers(x.template(x.partial(inner, -1, -1)), 1), 0);
            int middle = x.template(x.partial(inner, x.filter('d', a, 0), -1));
            is(x.readers(x.template(x.partial(middle, f, -1)), 1), 3);
            int both = x.template(x.row(x.partial(inner, f, -1), x.partial(inner, x.field(0), -1)));
            is("" + x.readers(both, 1) + x.readers(both, 0), "33");
        });
        test("36: by arguments also in blocks and in what overrides them.", () -> {
            Weftpage x = new Weftpage();
            int h = x.hole(x.argument());
            int base = x.template(x.block(0, h));
            int one = x.extend(base);
            x.override(one, 0, x.row(x.choice(x.argument(), x.piece(), -1), x.up()));
            int t = x.template(x.row(x.partial(base, x.field(3), -1), x.partial(one, x.field(5), -1)));
            is("" + x.readers(t, 0) + x.readers(t, 3) + x.readers(t, 5), "012");
            int without = x.template(x.partial(one, -1, -1));
            is("" + x.readers(without, 0) + x.readers(without, 3) + x.readers(without, 5), "000");
            is("" + x.readers(one, 0), "0");
        });
        test("36: a fill reads the arguments where the partial is called.", () -> {
            Weftpage x = new Weftpage();
            int a = x.argument();
            int inner = x.template(x.slot());
            int outer = x.template(x.partial(inner, x.field(0), x.hole(a)));
            int t = x.template(x.partial(outer, x.field(1), -1));
            is("" + x.readers(t, 0) + x.readers(t, 1), "01");
        });
        test("36: up to what is wrong.", () -> {
            Weftpage x = new Weftpage();
            int f = x.field(0);
            int t = x.template(rows(x, x.hole(f), piece(x, "<a"), x.hole(f), x.hole(f)));
            is(x.readers(t, 0), 2);
        });
    }

    // Output

    private static Weftpage shown(String text) {
        Weftpage x = new Weftpage();
        setText(x, 0, text);
        x.make(x.template(rows(x, x.piece(), hole(x, 0), piece(x, "b"), hole(x, 0))));
        return x;
    }

    private static void outputs() {
        test("37: there is no patch behind make, be there one ahead.", () -> {
            Weftpage x = shown("a");
            is(x.changes(), 0);
            x.clear(0);
            x.refresh();
            is(x.changes(), 2);
            x.make(0);
            is(x.changes(), 0);
            thrown(INDEX, () -> x.changeAt(0));
        });
        test("37: make of the eighth template.", () -> {
            Weftpage x = new Weftpage();
            int a = piece(x, "a");
            for (int i = 0; i < 8; i++) {
                x.template(a);
            }
            is(made2(x, 7), "a");
        });
        test("38: comes of the parts 0 and 3 returns whether it had come already.", () -> {
            Weftpage x = new Weftpage();
            for (int part = 0; part < 4; part++) {
                is(x.comes(part), false);
                is(x.comes(part), true);
            }
        });
        test("40: the length of an empty output is 0.", () -> {
            Weftpage x = new Weftpage();
            x.make(x.template(x.piece()));
            is(x.length(), 0);
            thrown(INDEX, () -> x.letterAt(0));
            thrown(INDEX, () -> x.writerOf(0));
        });
        test("40: the length of a long output.", () -> {
            Weftpage x = new Weftpage();
            eight(x, 0);
            int loop = x.loop(x.field(0), x.loop(x.field(0), piece(x, LONGEST), -1), -1);
            x.make(x.template(loop));
            is(x.length(), 1536);
            is("" + x.letterAt(0) + x.letterAt(1535), "ax");
            thrown(INDEX, () -> x.letterAt(1536));
        });
        test("41, 42: the first and the last letter, and their writers; those without letters wrote none.", () -> {
            Weftpage x = shown("ac");
            is(text(x), "acbac");
            is("" + x.writerOf(0) + x.writerOf(1) + x.writerOf(2) + x.writerOf(3) + x.writerOf(4), "22355");
            x.clear(0);
            x.refresh();
            is(x.length(), 1);
            is(x.writerOf(0), 3);
        });
    }

    private static void writers() {
        test("42: a template's node can be what wrote: a piece, or a hole.", () -> {
            Weftpage x = new Weftpage();
            x.setNumber(0, 12);
            int a = piece(x, "ab");
            int h = hole(x, 0);
            x.make(x.template(a));
            is(x.writerOf(0) + " " + x.writerOf(1), a + " " + a);
            x.make(x.template(h));
            is(x.writerOf(0) + " " + x.writerOf(1), h + " " + h);
        });
        test("40 to 42: outputs of all lengths, letter by letter where they may be cut.", () -> {
            for (int ahead = 0; ahead < 73; ahead++) {
                Weftpage x = new Weftpage();
                setText(x, 0, "########################");
                int h = hole(x, 0);
                int all = piece(x, "<a h=\"");
                for (int i = 0; i < ahead / 24; i++) {
                    all = x.row(all, piece(x, LONGEST));
                }
                all = x.row(all, piece(x, LONGEST.substring(0, ahead % 24)));
                int end = piece(x, "\">");
                x.make(x.template(rows(x, all, h, h, h, h, h, end)));
                is(x.length(), 6 + ahead + 360 + 2);
                for (int i = 0; i < 360; i += i < 9 || i > 347 ? 1 : 3) {
                    is(x.letterAt(6 + ahead + i), "%34".charAt(i % 3));
                }
                is(x.writerOf(6 + ahead + 359), h);
                is(x.writerOf(6 + ahead + 361), end);
            }
        });
    }

    private static void changes() {
        test("43: 0 changes without a patch, behind make, and behind a refreshing that failed.", () -> {
            Weftpage x = new Weftpage();
            is(x.changes(), 0);
            Weftpage y = shown("a");
            is(y.changes(), 0);
            y.setNumber(0, 1);
            y.refresh();
            is(y.changes(), 2);
            y.refresh();
            is(y.changes(), 0);
            y.setNumber(0, 2);
            y.refresh();
            is(y.changes(), 2);
            y.setList(0);
            y.refresh();
            is(y.changes(), 0);
            y.clear(0);
            y.refresh();
            is(y.changes(), 1);
            y.make(0);
            is(y.changes(), 0);
        });
        test("44 to 46: the first and the last change; the keys 0 and 99.", () -> {
            Weftpage x = new Weftpage();
            int h = x.hole(x.item('n'));
            int loop = x.loop(x.field(0), h, -1);
            x.setList(0);
            x.addItem(0, 99, 1);
            x.addItem(0, 0, 1);
            x.addItem(0, 5, 1);
            x.make(x.template(loop));
            x.takeItem(0, 2);
            x.moveItem(0, 0, 1);
            x.setItem(0, 1, 2);
            x.addItem(0, 50, 1);
            x.refresh();
            is(x.changes(), 4);
            StringBuilder b = new StringBuilder();
            for (int i = 0; i < 4; i++) {
                b.append(x.changeAt(i)).append(x.changedNode(i)).append(' ');
            }
            is(b.toString(), "d" + loop + " m" + loop + " r" + h + " i" + loop + " ");
            is(x.changedKey(0) + " " + x.changedKey(1) + " " + x.changedKey(3), "5 99 50");
            thrown(UNSUPPORTED, () -> x.changedKey(2));
            thrown(INDEX, () -> x.changedKey(4));
            x.clear(0);
            x.setList(0);
            x.addItem(0, 0, 0);
            x.refresh();
            is(x.changedKey(0) + " " + x.changedKey(1), "99 50");
        });
        test("44: as many changes as eight items in the place of eight others.", () -> {
            Weftpage x = new Weftpage();
            int loop = x.loop(x.field(0), x.piece(), -1);
            eight(x, 0);
            x.make(x.template(loop));
            x.setList(0);
            for (int key = 92; key < 100; key++) {
                x.addItem(0, key, 0);
            }
            x.refresh();
            is(x.changes(), 16);
            is("" + x.changeAt(7) + x.changeAt(8) + x.changedKey(7) + x.changedKey(8) + x.changedKey(15), "di79299");
            thrown(INDEX, () -> x.changeAt(16));
        });
        test("43 to 46: as many changes as an output can have items, gone and new.", () -> {
            Weftpage x = new Weftpage();
            for (int field = 0; field < 3; field++) {
                eight(x, field);
            }
            int inner = x.loop(x.field(2), x.piece(), -1);
            x.make(x.template(x.loop(x.field(0), x.loop(x.field(1), inner, -1), -1)));
            x.setList(2);
            for (int key = 8; key < 16; key++) {
                x.addItem(2, key, 0);
            }
            x.refresh();
            is(x.changes(), 1024);
            is(x.meanChanges(), 1024.0);
            for (int index = 0; index < 1024; index += index < 32 || index > 1000 ? 1 : 16) {
                is(x.changeAt(index), index % 16 < 8 ? 'd' : 'i');
                is(x.changedKey(index), index % 16);
                is(x.changedNode(index), inner);
            }
            thrown(INDEX, () -> x.changeAt(1024));
            is(x.isSound(), true);
        });
        test("47: each fault; none behind a make that is there; the last one of several.", () -> {
            Weftpage x = new Weftpage();
            int none = x.template(x.piece());
            int item = x.template(x.hole(x.item('n')));
            int argument = x.template(x.hole(x.argument()));
            int sort = x.template(x.hole(x.filter('u', x.number(1), 0)));
            is(x.make(item), 'f');
            is(x.fault(), 'i');
            is(x.fault(), 'i');
            is(x.make(argument), 'f');
            is(x.fault(), 'a');
            is(x.make(sort), 'f');
            is(x.fault(), 't');
            is(x.make(none), 'o');
            thrown(ELEMENT, x::fault);
        });
        test("47: the fault that a guard got is none.", () -> {
            Weftpage x = new Weftpage();
            is(made(x, x.guard(x.hole(x.argument()), x.piece())), "");
            thrown(ELEMENT, x::fault);
        });
    }

    private static void sums() {
        test("48: written is 0 at first, sums each output, and none that failed or was refused.", () -> {
            Weftpage x = new Weftpage();
            is(x.written(), 0L);
            int wrong = x.template(piece(x, "<abc"));
            thrown(UNSUPPORTED, () -> x.make(wrong));
            is(x.written(), 0L);
            x.make(x.template(x.piece()));
            is(x.written(), 0L);
            int t = x.template(x.row(piece(x, "abc"), hole(x, 0)));
            x.make(t);
            is(x.written(), 3L);
            x.refresh();
            is(x.written(), 6L);
            x.setNumber(0, -5);
            is(x.written(), 6L);
            x.refresh();
            is(x.written(), 11L);
            x.setList(0);
            x.refresh();
            x.make(t);
            is(x.written(), 11L);
        });
        test("49: holeShare is 0.0f without letters, 0 without holes, 1 without pieces.", () -> {
            Weftpage x = new Weftpage();
            x.make(x.template(x.row(x.piece(), hole(x, 0))));
            is(x.holeShare(), 0.0f);
            x.make(x.template(piece(x, "a")));
            is(x.holeShare(), 0.0f);
            x.setNumber(0, -12);
            x.make(x.template(hole(x, 0)));
            is(x.holeShare(), 1.0f);
            x.make(x.template(rows(x, piece(x, "abcd"), hole(x, 0))));
            is(x.holeShare(), 3.0f / 7.0f);
            setText(x, 0, "<");
            x.refresh();
            is(x.holeShare(), 2.0f / 6.0f);
        });
        test("49: holeShare of a single letter, and of an output that is smaller than the one ahead.", () -> {
            Weftpage x = new Weftpage();
            x.setNumber(0, 5);
            int h = hole(x, 0);
            int a = piece(x, "a");
            int single = x.template(h);
            int both = x.template(x.row(h, a));
            int without = x.template(a);
            x.make(single);
            is(x.holeShare(), 1.0f);
            x.make(both);
            is(x.holeShare(), 0.5f);
            x.make(without);
            is(x.holeShare(), 0.0f);
        });
        test("50: meanChanges of one patch without changes, of several, and of none that failed.", () -> {
            Weftpage x = shown("a");
            x.refresh();
            is(x.meanChanges(), 0.0);
            x.clear(0);
            x.refresh();
            is(x.meanChanges(), 1.0);
            x.refresh();
            is(x.meanChanges(), 2.0 / 3.0);
            x.setList(0);
            x.refresh();
            is(x.meanChanges(), 2.0 / 3.0);
            x.clear(0);
            x.refresh();
            is(x.meanChanges(), 3.0 / 4.0);
            x.make(0);
            is(x.meanChanges(), 3.0 / 4.0);
        });
        test("51: isSound without an output, of an empty one, and behind each patch.", () -> {
            Weftpage x = new Weftpage();
            is(x.isSound(), true);
            int t = x.template(x.piece());
            x.make(t);
            is(x.isSound(), true);
            x.refresh();
            is(x.isSound(), true);
            Weftpage y = shown("<\">&");
            is(y.isSound(), true);
            y.clear(0);
            is(patch(y), "r2 r5");
            y.setList(0);
            y.refresh();
            is(y.isSound(), true);
        });
        test("51: isSound in each of the surroundings that a hole can be in.", () -> {
            for (String text : new String[] {"", "<", ">", "\"", "&", "j:", "</s>", "\"></a>", "#", "<<a", "</"}) {
                Weftpage x = new Weftpage();
                int h = hole(x, 0);
                int all = rows(x, h, piece(x, "<a b=\""), h, piece(x, "\" h=\""), h, piece(x, "\"><s>"), h, piece(x, "</s>"));
                x.make(x.template(all));
                setText(x, 0, text);
                x.refresh();
                is(x.isSound(), true);
                is(x.changes(), text.isEmpty() ? 0 : 4);
            }
        });
    }

    static void all() {
        newObjects();
        rows();
        fields();
        items();
        nodes();
        parts();
        templates();
        surroundings();
        outputs();
        writers();
        changes();
        sums();
    }

    public static void main(String[] args) {
        all();
        end("EdgeTests");
    }
}
