/** One test for each sentence of the section "Terms" that names a boundary case, in its order. */
public final class TermsTests extends Checks {
    private static final String LETTERS = "abcdefghijklmnopqrstuvwxyz <>/=\"&:#";
    private static final String LONGEST = "abcdefghijklmnopqrstuvwx";

    // What the tests below share

    private static String holeOf(Weftpage x, int value) {
        return made(x, x.hole(value));
    }

    // Letters and data

    private static void letters() {
        test("Letters. 'a' to 'z', ' ', '<', '>', '/', '=', '\"', '&', ':' and '#'.", () -> {
            for (int block = 0; block < 65536; block += 256) {
                Weftpage x = new Weftpage();
                for (int c = block; c < block + 256; c++) {
                    char letter = (char) c;
                    if (LETTERS.indexOf(letter) < 0) {
                        thrown(ARGUMENT, () -> x.type(letter));
                    } else {
                        is(new Weftpage().type(letter), 1);
                    }
                }
                is(x.type('a'), 1);
            }
        });
        test("Output can have others, too: what a row can't.", () -> {
            Weftpage x = new Weftpage();
            x.setNumber(0, -120);
            setText(x, 1, "az");
            int upper = x.hole(x.filter('u', x.field(1), 0));
            is(made(x, x.row(hole(x, 0), upper)), "-120AZ");
            is(inAddress("<"), "%27");
            is(inScript("<"), "\"\\l\"");
        });
        test("They are typed into a row: each letter as it is, in its order, up to 24.", () -> {
            is(inText(LONGEST), LONGEST);
            is(inText("yz <>/=\"&:#"), "yz &l&g/=\"&a:#");
            Weftpage x = new Weftpage();
            for (int i = 0; i < 24; i++) {
                is(x.type(LETTERS.charAt(i + 11)), i + 1);
            }
            thrown(STATE, () -> x.type('a'));
            x.setText(0);
            is(holeOf(x, x.field(0)), "lmnopqrstuvwxyz &l&g/=\"&a:#");
        });
    }

    private static void fields() {
        test("Data. There are the fields 0 to 5, each its own.", () -> {
            Weftpage x = new Weftpage();
            int all = hole(x, 0);
            for (int f = 1; f < 6; f++) {
                all = x.row(all, hole(x, f));
            }
            int t = x.template(all);
            for (int f = 0; f < 6; f++) {
                x.setNumber(f, f + 1);
            }
            is(made2(x, t), "123456");
            x.clear(0);
            x.clear(5);
            is(made2(x, t), "2345");
        });
        test("A field has nothing, as at first: first and last field.", () -> {
            Weftpage x = new Weftpage();
            is(x.has(0), '-');
            is(x.has(5), '-');
            is(made(x, x.row(hole(x, 0), hole(x, 5))), "");
        });
        test("A field has nothing, a number, a text, or a list: one in place of another, all ways.", () -> {
            String kinds = "-ntl";
            for (char before : kinds.toCharArray()) {
                for (char behind : kinds.toCharArray()) {
                    Weftpage x = new Weftpage();
                    is(give(x, before), '-');
                    is(x.has(0), before);
                    is(give(x, behind), before);
                    is(x.has(0), behind);
                }
            }
        });
    }

    private static char give(Weftpage x, char kind) {
        switch (kind) {
            case 'n':
                return x.setNumber(0, 3);
            case 't':
                return x.setText(0);
            case 'l':
                return x.setList(0);
            default:
                return x.clear(0);
        }
    }

    private static void items() {
        test("A list of at most 8 items: the eighth is the last.", () -> {
            Weftpage x = new Weftpage();
            list(x, 0, 0, 1, 2, 3, 4, 5, 6);
            is(x.addItem(0, 7, 0), 8);
            thrown(STATE, () -> x.addItem(0, 8, 0));
            is(x.items(0), 8);
            is(made(x, x.loop(x.field(0), x.hole(x.item('k')), -1)), "01234567");
            x.takeItem(0, 0);
            is(x.addItem(0, 8, 0), 8);
            thrown(STATE, () -> x.addItem(0, 0, 0));
        });
        test("An item has a key from 0 to 99.", () -> {
            Weftpage x = new Weftpage();
            list(x, 0, 0, 99, 1, 98);
            is(made(x, x.loop(x.field(0), x.row(x.hole(x.item('k')), piece(x, " ")), -1)), "0 99 1 98 ");
            thrown(ARGUMENT, () -> x.addItem(0, -1, 0));
            thrown(ARGUMENT, () -> x.addItem(0, 100, 0));
        });
        test("A key, which no other one of its list has, but one of another list.", () -> {
            Weftpage x = new Weftpage();
            list(x, 0, 0, 50, 99);
            list(x, 1, 99);
            is(x.addItem(1, 0, 0), 2);
            thrown(UNSUPPORTED, () -> x.addItem(0, 0, 0));
            thrown(UNSUPPORTED, () -> x.addItem(0, 50, 0));
            thrown(UNSUPPORTED, () -> x.addItem(0, 99, 0));
            x.takeItem(0, 1);
            is(x.addItem(0, 50, 0), 3);
            x.setList(0);
            is(x.addItem(0, 99, 0), 1);
        });
        test("An item has a number and a text: the empty and the longest.", () -> {
            Weftpage x = new Weftpage();
            x.setList(0);
            add(x, 0, 0, -999, "");
            add(x, 0, 1, 999, LONGEST);
            is(made(x, x.loop(x.field(0), x.row(x.hole(x.item('n')), x.hole(x.item('t'))), -1)), "-999999" + LONGEST);
        });
    }

    // Nodes

    private static void nodes() {
        test("Nodes. At most 100 nodes are numbered from 0.", () -> {
            Weftpage x = new Weftpage();
            is(piece(x, "a"), 0);
            for (int i = 1; i < 99; i++) {
                is(x.field(i % 6), i);
            }
            is(x.row(0, 0), 99);
            is(x.nodes(), 100);
            thrown(STATE, () -> x.row(0, 0));
            is(made(x, 99), "aa");
        });
        test("Parts are nodes with lower numbers: the one just below, and not the node itself.", () -> {
            Weftpage x = new Weftpage();
            x.field(0);
            x.template(x.piece());
            thrown(INDEX, () -> x.row(0, 2));
            thrown(INDEX, () -> x.row(1, 2));
            is(x.row(1, 1), 2);
            thrown(INDEX, () -> x.choice(0, 3, -1));
            is(x.choice(0, 2, 1), 3);
            thrown(INDEX, () -> x.loop(0, 1, 4));
            is(x.loop(0, 1, 3), 4);
            thrown(INDEX, () -> x.guard(5, 1));
            is(x.guard(4, 1), 5);
            thrown(INDEX, () -> x.block(0, 6));
            is(x.block(0, 5), 6);
            thrown(INDEX, () -> x.later(0, 7));
            is(x.later(0, 6), 7);
            thrown(INDEX, () -> x.partial(0, -1, 8));
            is(x.partial(0, -1, 7), 8);
            is(x.field(0), 9);
            thrown(INDEX, () -> x.hole(10));
            is(x.hole(9), 10);
            thrown(INDEX, () -> x.filter('l', 11, 0));
            is(x.filter('l', 9, 0), 11);
        });
        test("A node can be a part of several, and of one twice.", () -> {
            Weftpage x = new Weftpage();
            int f = x.field(0);
            int h = x.hole(f);
            x.setNumber(0, 7);
            int row = x.row(h, h);
            is(made(x, rows(x, row, h, x.choice(f, row, h), x.hole(x.filter('+', f, 1)))), "777778");
        });
    }

    // Values

    private static void values() {
        test("Values: of the item of the innermost loop around.", () -> {
            Weftpage x = new Weftpage();
            list(x, 0, 10, 11);
            list(x, 1, 20, 21);
            int key = x.hole(x.item('k'));
            int inner = x.loop(x.field(1), key, -1);
            is(made(x, x.loop(x.field(0), rows(x, key, inner, key), -1)), "10202110" + "11202111");
            int none = x.loop(x.field(2), key, key);
            is(made(x, x.loop(x.field(0), none, -1)), "1011");
        });
        test("Values: the place from 0, to 7.", () -> {
            Weftpage x = new Weftpage();
            list(x, 0, 9, 8, 7, 6, 5, 4, 3, 2);
            is(made(x, x.loop(x.field(0), x.hole(x.item('i')), -1)), "01234567");
            x.moveItem(0, 7, 0);
            is(made(x, x.loop(x.field(0), x.row(x.hole(x.item('k')), x.hole(x.item('i'))), -1)), "2091" + "82736455" + "4637");
        });
        test("Filter 'l': the length of a text, from 0 to 24.", () -> {
            Weftpage x = new Weftpage();
            x.setText(0);
            int l = x.filter('l', x.field(0), 0);
            is(holeOf(x, l), "0");
            setText(x, 0, "<");
            is(holeOf(x, l), "1");
            setText(x, 0, LONGEST);
            is(holeOf(x, l), "24");
        });
        test("Filter 'l': the number of items of a list, from 0 to 8.", () -> {
            Weftpage x = new Weftpage();
            x.setList(0);
            int l = x.filter('l', x.field(0), 0);
            is(holeOf(x, l), "0");
            list(x, 0, 5);
            is(holeOf(x, l), "1");
            list(x, 0, 0, 1, 2, 3, 4, 5, 6, 7);
            is(holeOf(x, l), "8");
        });
        test("Filter 'u': a text with 'A' to 'Z' for 'a' to 'z', all others as they are.", () -> {
            Weftpage x = new Weftpage();
            int u = x.filter('u', x.field(0), 0);
            x.setText(0);
            is(holeOf(x, u), "");
            setText(x, 0, "azbymn /=\":#");
            is(holeOf(x, u), "AZBYMN /=\":#");
            int twice = x.filter('u', u, 0);
            is(holeOf(x, twice), "AZBYMN /=\":#");
            setText(x, 0, LONGEST);
            is(holeOf(x, u), "ABCDEFGHIJKLMNOPQRSTUVWX");
        });
    }

    private static void firstLetters() {
        test("Filter 'c': the first n letters of a text, with n from 0 to 99.", () -> {
            Weftpage x = new Weftpage();
            int f = x.field(0);
            setText(x, 0, "abc");
            int[] n = {0, 1, 2, 3, 4, 24, 99};
            String[] due = {"", "a", "ab", "abc", "abc", "abc", "abc"};
            for (int i = 0; i < n.length; i++) {
                Weftpage y = new Weftpage();
                setText(y, 0, "abc");
                is(holeOf(y, y.filter('c', y.field(0), n[i])), due[i]);
            }
            x.setText(0);
            is(holeOf(x, x.filter('c', f, 1)), "");
            setText(x, 0, LONGEST);
            is(holeOf(x, x.filter('c', f, 23)), LONGEST.substring(0, 23));
            is(holeOf(x, x.filter('c', f, 24)), LONGEST);
            is(holeOf(x, x.filter('c', f, 25)), LONGEST);
        });
        test("Filter 'd': the number n instead of nothing, from 0 to 99.", () -> {
            Weftpage x = new Weftpage();
            int f = x.field(0);
            is(holeOf(x, x.filter('d', f, 0)), "0");
            is(holeOf(x, x.filter('d', f, 99)), "99");
        });
        test("Filter 'd': otherwise the value itself, be it 0, empty or without items.", () -> {
            Weftpage x = new Weftpage();
            int d = x.filter('d', x.field(0), 9);
            x.setNumber(0, 0);
            is(holeOf(x, d), "0");
            x.setText(0);
            is(holeOf(x, d), "");
            x.setList(0);
            is(holeOf(x, x.filter('l', d, 0)), "0");
            list(x, 0, 4, 5);
            is(made(x, x.loop(d, x.hole(x.item('k')), -1)), "45");
        });
        test("Filter '+': a number plus n, below 0, at it, and beyond what a field can have.", () -> {
            Weftpage x = new Weftpage();
            int f = x.field(0);
            int none = x.filter('+', f, 0);
            int most = x.filter('+', f, 99);
            int t = x.template(x.row(x.hole(none), x.row(piece(x, " "), x.hole(most))));
            int[] numbers = {-999, -100, -99, -98, 0, 900, 901, 999};
            String[] due = {"-999 -900", "-100 -1", "-99 0", "-98 1", "0 99", "900 999", "901 1000", "999 1098"};
            for (int i = 0; i < numbers.length; i++) {
                x.setNumber(0, numbers[i]);
                is(made2(x, t), due[i]);
            }
            int more = most;
            for (int i = 0; i < 60; i++) {
                more = x.filter('+', more, 99);
            }
            is(holeOf(x, more), "7038");
        });
        test("Filter 'p': \"s\" if the number is not 1, otherwise the empty text.", () -> {
            Weftpage x = new Weftpage();
            int p = x.filter('p', x.field(0), 0);
            int t = x.template(x.row(x.hole(p), x.hole(x.filter('l', p, 0))));
            int[] numbers = {-999, -1, 0, 1, 2, 11, 999};
            for (int number : numbers) {
                x.setNumber(0, number);
                is(made2(x, t), number == 1 ? "0" : "s1");
            }
            is(holeOf(x, x.filter('u', p, 0)), "S");
        });
    }

    private static void faults() {
        test("Others that a filter cannot work with are the fault 't'.", () -> {
            String[] refused = {"luc+p", "luc", "+p", "uc+p"};
            for (int has = 0; has < 4; has++) {
                for (char kind : "lucd+p".toCharArray()) {
                    Weftpage x = new Weftpage();
                    give(x, "-ntl".charAt(has));
                    String got = made(x, x.choice(x.filter(kind, x.field(0), 1), x.piece(), -1));
                    String due = refused[has].indexOf(kind) >= 0 ? "fault t" : "";
                    is(kind + " of " + has + " " + got, kind + " of " + has + " " + due);
                }
            }
        });
        test("A filter of a filter that cannot work is the fault 't', not what is behind it.", () -> {
            Weftpage x = new Weftpage();
            is(holeOf(x, x.filter('d', x.filter('l', x.field(0), 0), 5)), "fault t");
            is(holeOf(x, x.filter('+', x.filter('u', x.item('k'), 0), 5)), "fault i");
        });
        test("An item without a loop around is the fault 'i', of each of its parts.", () -> {
            for (char part : "knti".toCharArray()) {
                Weftpage x = new Weftpage();
                x.setList(0);
                x.addItem(0, 0, 0);
                int item = x.hole(x.item(part));
                is(made(x, item), "fault i");
                is(made(x, x.row(x.loop(x.field(0), x.piece(), -1), item)), "fault i");
                is(made(x, x.loop(x.field(1), x.piece(), item)), "fault i");
                is(made(x, x.loop(x.field(0), item, -1)).startsWith("fault"), false);
            }
        });
        test("An argument without a partial around is the fault 'a', also behind one and in a fill.", () -> {
            Weftpage x = new Weftpage();
            int hole = x.hole(x.argument());
            int slot = x.template(x.slot());
            is(made(x, hole), "fault a");
            is(made(x, x.row(x.partial(slot, x.number(1), -1), hole)), "fault a");
            is(made(x, x.partial(slot, x.number(1), hole)), "fault a");
            is(made(x, x.hole(x.filter('d', x.argument(), 1))), "fault a");
        });
    }

    private static void truths() {
        test("The number 0, nothing, the empty text and a list without items are false, all others true.", () -> {
            Weftpage x = new Weftpage();
            int t = x.template(x.choice(x.field(0), piece(x, "y"), piece(x, "n")));
            is(made2(x, t), "n");
            int[] numbers = {-999, -1, 0, 1, 999};
            for (int number : numbers) {
                x.setNumber(0, number);
                is(made2(x, t), number == 0 ? "n" : "y");
            }
            x.setText(0);
            is(made2(x, t), "n");
            setText(x, 0, " ");
            is(made2(x, t), "y");
            setText(x, 0, LONGEST);
            is(made2(x, t), "y");
            x.setList(0);
            is(made2(x, t), "n");
            x.addItem(0, 0, 0);
            is(made2(x, t), "y");
        });
        test("The same of what filters, items and arguments give.", () -> {
            Weftpage x = new Weftpage();
            int yes = piece(x, "y");
            int no = piece(x, "n");
            setText(x, 0, "a");
            x.setNumber(1, -5);
            x.setList(2);
            add(x, 2, 0, 0, "");
            add(x, 2, 1, -1, "a");
            int cut = x.choice(x.filter('c', x.field(0), 0), yes, no);
            int sum = x.choice(x.filter('+', x.field(1), 5), yes, no);
            int plural = x.choice(x.filter('p', x.number(1), 0), yes, no);
            int length = x.choice(x.filter('l', x.field(0), 0), yes, no);
            int instead = x.choice(x.filter('d', x.field(3), 0), yes, no);
            is(made(x, rows(x, cut, sum, plural, length, instead)), "nnnyn");
            int items = x.choice(x.item('k'), yes, no);
            for (char part : "nti".toCharArray()) {
                items = x.row(items, x.choice(x.item(part), yes, no));
            }
            is(made(x, x.loop(x.field(2), items, -1)), "nnnnyyyy");
            int inside = x.template(x.choice(x.argument(), yes, no));
            int calls = rows(x, x.partial(inside, -1, -1), x.partial(inside, x.field(2), -1), x.partial(inside, x.number(0), -1));
            is(made(x, calls), "nyn");
        });
    }

    // Others

    private static void holes() {
        test("A piece is a text as it is: the empty one, and each letter.", () -> {
            Weftpage x = new Weftpage();
            is(made(x, x.row(x.piece(), piece(x, "<a h=\"j:#&> =\">\"&:#/"))), "<a h=\"j:#&> =\">\"&:#/");
        });
        test("A hole writes a number by its digits, with '-' if it is less than 0.", () -> {
            Weftpage x = new Weftpage();
            int t = x.template(hole(x, 0));
            for (int number : new int[] {-999, -100, -99, -10, -9, -1, 0, 1, 9, 10, 99, 100, 999}) {
                x.setNumber(0, number);
                is(made2(x, t), "" + number);
            }
        });
        test("A hole writes nothing as no letters; a list is the fault 't', also without items.", () -> {
            Weftpage x = new Weftpage();
            int t = x.template(hole(x, 0));
            is(made2(x, t), "");
            x.setList(0);
            is(made2(x, t), "fault t");
            x.addItem(0, 0, 0);
            is(made2(x, t), "fault t");
        });
        test("A choice by a value, with another node, or none.", () -> {
            Weftpage x = new Weftpage();
            int a = piece(x, "a");
            int b = piece(x, "b");
            int both = x.row(x.choice(x.field(0), a, b), x.choice(x.field(0), a, -1));
            is(made(x, both), "b");
            x.setNumber(0, 1);
            is(made(x, both), "aa");
            is(made(x, x.choice(x.item('k'), a, b)), "fault i");
        });
        test("A loop: the other node, or none, if there are no items; nothing is like a list without items.", () -> {
            Weftpage x = new Weftpage();
            int a = piece(x, "a");
            int b = piece(x, "b");
            int t = x.template(x.row(x.loop(x.field(0), a, b), x.loop(x.field(0), a, -1)));
            is(made2(x, t), "b");
            x.setList(0);
            is(made2(x, t), "b");
            x.addItem(0, 0, 0);
            is(made2(x, t), "aa");
            list(x, 0, 0, 1, 2, 3, 4, 5, 6, 7);
            is(made2(x, t), "aaaaaaaaaaaaaaaa");
        });
        test("A loop over a value that is no list is the fault 't', also if it is false.", () -> {
            Weftpage x = new Weftpage();
            int t = x.template(x.loop(x.field(0), x.piece(), x.piece()));
            x.setNumber(0, 0);
            is(made2(x, t), "fault t");
            x.setNumber(0, 1);
            is(made2(x, t), "fault t");
            x.setText(0);
            is(made2(x, t), "fault t");
            setText(x, 0, "a");
            is(made2(x, t), "fault t");
        });
    }

    private static void partials() {
        test("A partial without an argument has nothing as its argument, not that of the partial around.", () -> {
            Weftpage x = new Weftpage();
            int inner = x.template(x.row(x.hole(x.argument()), x.loop(x.argument(), x.piece(), piece(x, "e"))));
            is(made(x, x.partial(inner, -1, -1)), "e");
            int outer = x.template(x.partial(inner, -1, -1));
            is(made(x, x.partial(outer, x.number(5), -1)), "e");
        });
        test("An argument is worked out as the partial is called, be it read or not.", () -> {
            Weftpage x = new Weftpage();
            int quiet = x.template(piece(x, "q"));
            is(made(x, x.partial(quiet, x.item('k'), -1)), "fault i");
            is(made(x, x.partial(quiet, x.argument(), -1)), "fault a");
            is(made(x, x.partial(quiet, x.filter('+', x.field(0), 1), -1)), "fault t");
            list(x, 0, 7, 8);
            int loud = x.template(x.loop(x.field(0), x.row(x.hole(x.item('i')), x.hole(x.argument())), -1));
            is(made(x, x.loop(x.field(0), x.partial(loud, x.item('k'), -1), -1)), "0717" + "0818");
        });
        test("An argument can be a list, which the partial's own loops go over.", () -> {
            Weftpage x = new Weftpage();
            list(x, 0, 7, 8);
            int each = x.template(x.loop(x.argument(), x.hole(x.item('k')), -1));
            is(made(x, x.partial(each, x.field(0), -1)), "78");
            x.setNumber(0, 0);
            is(made(x, x.partial(each, x.field(0), -1)), "fault t");
        });
        test("A slot: without a fill, and without a partial around, nothing.", () -> {
            Weftpage x = new Weftpage();
            int slot = x.slot();
            int t = x.template(rows(x, piece(x, "a"), slot, piece(x, "b")));
            is(made2(x, t), "ab");
            is(made(x, x.partial(t, -1, -1)), "ab");
            is(made(x, x.partial(t, -1, piece(x, "f"))), "afb");
            int outer = x.template(x.partial(t, -1, -1));
            is(made(x, x.partial(outer, -1, piece(x, "f"))), "ab");
        });
        test("A slot: with the items, the argument and the slot around there.", () -> {
            Weftpage x = new Weftpage();
            list(x, 0, 1, 2);
            list(x, 1, 8, 9);
            int slot = x.slot();
            int inner = x.template(x.loop(x.field(1), slot, -1));
            int item = x.hole(x.item('k'));
            is(made(x, x.loop(x.field(0), x.partial(inner, x.number(0), item), -1)), "1122");
            is(made(x, x.partial(inner, x.number(0), item)), "fault i");
            int outer = x.template(x.partial(inner, x.number(5), x.row(x.hole(x.argument()), slot)));
            is(made(x, x.partial(outer, x.number(6), x.hole(x.number(7)))), "6767");
            is(made(x, x.partial(outer, -1, slot)), "");
        });
    }

    private static void blocks() {
        test("A block of a name 0 to 3, with its own node.", () -> {
            Weftpage x = new Weftpage();
            int all = x.block(0, piece(x, "a"));
            for (int name = 1; name < 4; name++) {
                all = x.row(all, x.block(name, piece(x, "abcd".substring(name, name + 1))));
            }
            int base = x.template(all);
            is(made2(x, base), "abcd");
            int over = piece(x, "o");
            String[] due = {"obcd", "aocd", "abod", "abco"};
            for (int name = 0; name < 4; name++) {
                int t = x.extend(base);
                is(x.override(t, name, over), false);
                is(made2(x, t), due[name]);
            }
        });
        test("Calling up elsewhere gives nothing: in a node, a block's own node, a partial, behind an override.", () -> {
            Weftpage x = new Weftpage();
            int up = x.up();
            int a = piece(x, "a");
            is(made(x, x.row(a, up)), "a");
            is(made(x, x.block(0, x.row(a, up))), "a");
            int block = x.block(0, a);
            int base = x.template(x.row(block, up));
            int one = x.extend(base);
            x.override(one, 0, x.row(up, up));
            is(made2(x, one), "aa");
            int ups = x.template(up);
            x.override(one, 0, x.row(x.partial(ups, -1, -1), piece(x, "b")));
            is(made2(x, one), "b");
        });
        test("Calling up: not in the own node of a block in it, but in an override of that block.", () -> {
            Weftpage x = new Weftpage();
            int up = x.up();
            int outer = x.block(0, piece(x, "o"));
            int base = x.template(outer);
            int one = x.extend(base);
            int inner = x.block(1, x.row(piece(x, "i"), up));
            x.override(one, 0, x.row(up, inner));
            is(made2(x, one), "oi");
            x.override(one, 1, x.row(piece(x, "v"), up));
            is(made2(x, one), "ovi");
        });
        test("Calling up goes on with the one that the template extends, past those without an override.", () -> {
            Weftpage x = new Weftpage();
            int up = x.up();
            x.template(x.block(2, piece(x, "a")));
            for (int i = 1; i < 8; i++) {
                x.extend(i - 1);
            }
            x.override(7, 2, x.row(up, piece(x, "h")));
            is(made2(x, 7), "ah");
            is(made2(x, 6), "a");
            x.override(3, 2, x.row(up, piece(x, "d")));
            is(made2(x, 7), "adh");
            is(made2(x, 6), "ad");
            x.override(1, 2, piece(x, "b"));
            is(made2(x, 7), "bdh");
            is(made2(x, 2), "b");
            is(made2(x, 0), "a");
        });
        test("Calling up in a loop of an override's node goes on with the one below, for each item.", () -> {
            Weftpage x = new Weftpage();
            int up = x.up();
            list(x, 0, 1, 2);
            x.template(x.block(3, piece(x, "o")));
            x.extend(0);
            x.extend(1);
            x.extend(2);
            int loop = x.loop(x.field(0), x.row(x.hole(x.item('k')), up), -1);
            x.override(1, 3, x.row(piece(x, "a"), up));
            x.override(2, 3, x.row(piece(x, "b"), up));
            x.override(3, 3, x.row(piece(x, "c"), loop));
            is(made2(x, 3), "c1bao2bao");
            x.override(2, 3, loop);
            is(made2(x, 3), "c" + "11ao2ao" + "21ao2ao");
        });
        test("Calling up in a fill of an override's node is of that override.", () -> {
            Weftpage x = new Weftpage();
            int base = x.template(x.block(0, piece(x, "a")));
            int one = x.extend(base);
            int box = x.template(x.block(0, x.row(piece(x, "b"), x.slot())));
            x.override(one, 0, x.partial(box, -1, x.up()));
            is(made2(x, one), "ba");
        });
    }

    // Templates

    private static void templates() {
        test("Templates. At most 8 templates are numbered from 0.", () -> {
            Weftpage x = new Weftpage();
            int p = piece(x, "a");
            is(x.template(p), 0);
            for (int i = 1; i < 7; i++) {
                is(i % 2 == 0 ? x.template(p) : x.extend(i - 1), i);
            }
            is(x.extend(6), 7);
            thrown(STATE, () -> x.extend(6));
            thrown(STATE, () -> x.template(p));
            is(made2(x, 7), "a");
        });
        test("A block is done by the override of the template itself, or else of the one that it extends, and so on, or else by its own node.", () -> {
            Weftpage x = new Weftpage();
            x.template(x.block(0, piece(x, "o")));
            for (int i = 1; i < 8; i++) {
                x.extend(i - 1);
            }
            is(made2(x, 7), "o");
            x.override(1, 0, piece(x, "a"));
            is(made2(x, 0) + made2(x, 1) + made2(x, 7), "oaa");
            x.override(7, 0, piece(x, "g"));
            is(made2(x, 1) + made2(x, 6) + made2(x, 7), "aag");
            x.override(4, 0, piece(x, "d"));
            is(made2(x, 3) + made2(x, 4) + made2(x, 5) + made2(x, 7), "addg");
        });
        test("Partials in it have overrides of their own template alone.", () -> {
            Weftpage x = new Weftpage();
            int block = x.block(0, piece(x, "o"));
            int small = x.template(block);
            int smaller = x.extend(small);
            x.override(smaller, 0, piece(x, "s"));
            int base = x.template(rows(x, block, x.partial(small, -1, -1), x.partial(smaller, -1, -1)));
            int one = x.extend(base);
            x.override(one, 0, piece(x, "a"));
            is(made2(x, base), "oos");
            is(made2(x, one), "aos");
        });
        test("A fill has the overrides of the template that it stands in.", () -> {
            Weftpage x = new Weftpage();
            int block = x.block(0, piece(x, "o"));
            int box = x.template(x.row(block, x.slot()));
            int boxed = x.extend(box);
            x.override(boxed, 0, piece(x, "b"));
            int base = x.template(x.partial(boxed, -1, block));
            int one = x.extend(base);
            x.override(one, 0, piece(x, "a"));
            is(made2(x, base) + made2(x, one), "boba");
        });
        test("In a partial, there is no item around but those of its own loops.", () -> {
            Weftpage x = new Weftpage();
            list(x, 0, 3);
            int item = x.hole(x.item('k'));
            int bare = x.template(item);
            int own = x.template(x.loop(x.field(0), item, -1));
            is(made(x, x.loop(x.field(0), x.partial(bare, -1, -1), -1)), "fault i");
            is(made(x, x.partial(own, -1, -1)), "3");
            is(made(x, x.loop(x.field(0), x.row(x.partial(own, -1, -1), item), -1)), "33");
        });
        test("In a block, the argument and the slot of the partial that it stands in, also in what overrides it.", () -> {
            Weftpage x = new Weftpage();
            int own = x.row(x.hole(x.argument()), x.slot());
            int base = x.template(x.block(0, own));
            int one = x.extend(base);
            x.override(one, 0, rows(x, x.slot(), x.hole(x.argument()), x.up()));
            int f = piece(x, "f");
            is(made(x, x.partial(base, x.number(4), f)), "4f");
            is(made(x, x.partial(one, x.number(5), f)), "f55f");
            is(made(x, x.row(x.partial(one, -1, f), x.partial(one, x.number(6), -1))), "ff66");
        });
        test("In a block, the items where it stands, also of its override and of what that calls up.", () -> {
            Weftpage x = new Weftpage();
            list(x, 0, 3, 4);
            int item = x.hole(x.item('k'));
            int base = x.template(x.loop(x.field(0), x.block(0, item), -1));
            int one = x.extend(base);
            x.override(one, 0, rows(x, piece(x, "a"), item, x.up()));
            is(made2(x, base) + made2(x, one), "34a33a44");
        });
    }

    static void all() {
        letters();
        fields();
        items();
        nodes();
        values();
        firstLetters();
        faults();
        truths();
        holes();
        partials();
        blocks();
        templates();
    }

    public static void main(String[] args) {
        all();
        end("TermsTests");
    }
}
