/** One test for each sentence of "Checking" and "Output" that names how many nodes, and of "Output" and "Exceptions". */
public final class OutputTests extends Checks {

    // Just as many nodes as are wanted

    /** A node that has one more around it. */
    private static int wrapped(Weftpage x, int node) {
        return x.block(3, node);
    }

    /** So many nodes are gone through, or done, where so few were: pieces without letters are put ahead. */
    private static int padded(Weftpage x, int node, int few, int wanted) {
        int[] doubled = new int[8];
        doubled[0] = x.piece();
        for (int i = 1; i < 8; i++) {
            doubled[i] = x.row(doubled[i - 1], doubled[i - 1]);
        }
        int all = node;
        int missing = wanted - few;
        for (int i = 8; i > 0; i--) {
            for (; missing >= 1 << i; missing -= 1 << i) {
                all = x.row(doubled[i - 1], all);
            }
        }
        return missing == 1 ? wrapped(x, all) : all;
    }

    interface Maker {
        int node(Weftpage x);
    }

    /** Holds that these nodes are so many as the template is checked. */
    private static void checkedAs(int few, Maker maker) {
        for (int wanted = 599; wanted <= 602; wanted++) {
            Weftpage x = new Weftpage();
            x.template(x.slot());
            x.template(x.block(0, x.slot()));
            x.extend(1);
            int t = x.template(padded(x, maker.node(x), few, wanted));
            is(wanted + " " + x.check(t), wanted + (wanted <= 600 ? " o" : " m"));
        }
    }

    /** Holds that these nodes are so many as the output is made; behind a loop that is checked as fewer than it does. */
    private static void doneAs(int few, Maker maker) {
        for (int wanted = 599; wanted <= 602; wanted++) {
            Weftpage x = new Weftpage();
            x.template(x.slot());
            x.template(x.block(0, x.slot()));
            x.extend(1);
            x.comes(1);
            x.setList(5);
            for (int i = 0; i < 8; i++) {
                x.addItem(5, i, 0);
            }
            int loop = x.loop(x.field(5), x.piece(), -1);
            int node = x.row(loop, maker.node(x));
            int t = x.template(padded(x, node, 10 + few, wanted));
            is(wanted + " " + x.check(t), wanted + " o");
            is(wanted + " " + x.make(t), wanted + (wanted <= 600 ? " o" : " f"));
        }
    }

    private static void checkedCounts() {
        test("'m' the 601st node that is gone through, values not counted: a piece, a hole.", () -> {
            checkedAs(1, Weftpage::piece);
            checkedAs(1, x -> x.hole(x.filter('l', x.filter('u', x.field(0), 0), 0)));
        });
        test("'m' the 601st: a row and its parts, be they the same.", () -> checkedAs(3, x -> {
            int p = x.piece();
            return x.row(p, p);
        }));
        test("'m' the 601st: both nodes of a choice, of a loop, of a guard.", () -> {
            checkedAs(3, x -> x.choice(x.field(0), x.piece(), x.piece()));
            checkedAs(2, x -> x.choice(x.field(0), x.piece(), -1));
            checkedAs(3, x -> x.loop(x.field(0), x.piece(), x.piece()));
            checkedAs(2, x -> x.loop(x.field(0), x.piece(), -1));
            checkedAs(3, x -> x.guard(x.piece(), x.piece()));
        });
        test("'m' the 601st: a partial, its template's node, a slot and its fill.", () -> {
            checkedAs(1, Weftpage::slot);
            checkedAs(2, x -> x.partial(0, -1, -1));
            checkedAs(2, x -> x.partial(0, x.field(0), -1));
            checkedAs(3, x -> x.partial(0, -1, x.piece()));
        });
        test("'m' the 601st: a block and what does it, a calling up and what it calls.", () -> {
            checkedAs(2, x -> x.block(1, x.piece()));
            checkedAs(1, Weftpage::up);
            checkedAs(4, x -> x.partial(1, -1, x.piece()));
            checkedAs(3, x -> {
                x.override(2, 0, x.piece());
                return x.partial(2, -1, -1);
            });
            checkedAs(4, x -> {
                x.override(2, 0, x.up());
                return x.partial(2, -1, -1);
            });
        });
        test("'m' the 601st: a later part and its node, come or not.", () -> checkedAs(2, x -> x.later(0, x.piece())));
        test("'m' is told at once, of the 601st node itself.", () -> {
            Weftpage x = new Weftpage();
            int v = x.field(0);
            int last = x.hole(v);
            int node = x.row(padded(x, x.piece(), 1, 599), last);
            int t = x.template(node);
            is(checked(x, t), "m" + last);
            int even = x.template(x.row(padded(x, x.piece(), 1, 598), x.row(last, last)));
            is(checked(x, even), "m" + last);
            int choice = x.choice(v, x.row(padded(x, x.piece(), 1, 597), piece(x, "<a")), last);
            is(checked(x, x.template(choice)), "m" + last);
        });
    }

    private static void doneCounts() {
        test("The 601st node that is done, values not counted, is the fault 'm': a piece, a hole, a row.", () -> {
            doneAs(1, Weftpage::piece);
            doneAs(1, x -> x.hole(x.filter('d', x.filter('d', x.field(0), 0), 0)));
            doneAs(3, x -> x.row(x.piece(), x.piece()));
        });
        test("The 601st node that is done: of a choice and of a guard those that are done.", () -> {
            doneAs(2, x -> x.choice(x.number(0), x.piece(), x.piece()));
            doneAs(2, x -> x.choice(x.number(1), x.piece(), x.piece()));
            doneAs(1, x -> x.choice(x.number(0), x.piece(), -1));
            doneAs(2, x -> x.guard(x.piece(), x.piece()));
        });
        test("The 601st node that is done: of a loop its node for each item, or the other one.", () -> {
            doneAs(9, x -> x.loop(x.field(5), x.piece(), x.piece()));
            doneAs(2, x -> x.loop(x.field(4), x.piece(), x.piece()));
            doneAs(1, x -> x.loop(x.field(4), x.piece(), -1));
        });
        test("The 601st node that is done: a partial, a slot, a block, a calling up.", () -> {
            doneAs(1, Weftpage::slot);
            doneAs(2, x -> x.partial(0, -1, -1));
            doneAs(3, x -> x.partial(0, x.field(0), x.piece()));
            doneAs(2, x -> x.block(1, x.piece()));
            doneAs(1, Weftpage::up);
            doneAs(4, x -> {
                x.override(2, 0, x.up());
                return x.partial(2, -1, -1);
            });
        });
        test("The 601st node that is done: a later part's node only if it has come.", () -> {
            doneAs(1, x -> x.later(0, x.piece()));
            doneAs(2, x -> x.later(1, x.piece()));
        });
        test("Those of a guard's first node counted, also if a fault is in it.", () -> {
            doneAs(3, x -> x.guard(x.hole(x.argument()), x.piece()));
            doneAs(7, x -> x.guard(x.row(x.piece(), x.row(x.piece(), x.hole(x.argument()))), x.piece()));
        });
        test("The fault 'm', which no guard gets: not around it, neither in its first nor in its second node.", () -> {
            Weftpage x = new Weftpage();
            x.setList(0);
            for (int i = 0; i < 8; i++) {
                x.addItem(0, i, 0);
            }
            int f = x.field(0);
            int p = piece(x, "a");
            int many = x.loop(f, x.loop(f, x.loop(f, x.row(p, p), -1), -1), -1);
            is(made(x, many), "fault m");
            is(made(x, x.guard(many, p)), "fault m");
            is(made(x, x.guard(x.guard(many, p), p)), "fault m");
            is(made(x, x.guard(x.hole(x.argument()), many)), "fault m");
            is(made(x, x.guard(p, many)), "a");
        });
    }

    /** The eighth template calls up seven times, and all its nodes stand in one another; the node 2 is the innermost. */
    private static Weftpage nested(int around, int each) {
        Weftpage x = new Weftpage();
        int yes = x.number(1);
        x.hole(x.field(0));
        int node = x.block(0, 2);
        for (int i = 0; i < around; i++) {
            node = x.choice(yes, node, -1);
        }
        x.template(node);
        int chain = x.up();
        for (int i = 0; i < each; i++) {
            chain = x.choice(yes, chain, -1);
        }
        for (int i = 1; i < 8; i++) {
            x.extend(i - 1);
            x.override(i, 0, chain);
        }
        return x;
    }

    private static void deepest() {
        test("'m': 600 nodes that stand in one another are not too many, the 601st is.", () -> {
            Weftpage x = nested(3, 84);
            is(checked(x, 7), "o");
            x.setNumber(0, 12);
            is(made2(x, 7), "12");
            is(x.writerOf(1), 2);
            x.setNumber(0, 3);
            is(patch(x), "r2");
            is(text(x), "3");
            is(x.readers(7, 0), 1);
            is(x.around(7, 2), 't');
            is(checked(nested(4, 84), 7), "m2");
        });
        test("The 600th node that is done can be one that writes, and one that is changed.", () -> {
            Weftpage x = new Weftpage();
            int h = hole(x, 0);
            x.setNumber(0, 77);
            x.make(x.template(x.choice(x.number(1), x.row(padded(x, x.piece(), 1, 597), h), -1)));
            is(x.length(), 2);
            is(x.writerOf(1), h);
            is(x.holeShare(), 1.0f);
            x.setNumber(0, 8);
            is(patch(x), "r" + h);
            is(text(x), "8");
        });
    }

    // What is there of an output

    private static void presence() {
        test("A fault without a guard makes it fail, and no output is there then.", () -> {
            Weftpage x = new Weftpage();
            int t = x.template(x.row(piece(x, "a"), hole(x, 0)));
            is(x.make(t), 'o');
            x.setList(0);
            is(x.make(t), 'f');
            thrown(STATE, x::length);
            is(x.fault(), 't');
            is(x.changes(), 0);
        });
        test("A guard: its first node, or, if there is a fault in it, the second one alone.", () -> {
            Weftpage x = new Weftpage();
            int a = piece(x, "a");
            int b = piece(x, "b");
            int bad = x.hole(x.argument());
            is(made(x, x.guard(a, bad)), "a");
            is(made(x, x.guard(bad, b)), "b");
            is(made(x, x.guard(rows(x, a, a, bad, a), b)), "b");
            is(made(x, x.guard(bad, x.row(b, bad))), "fault a");
            is(made(x, x.guard(x.guard(bad, bad), b)), "b");
            is(made(x, rows(x, a, x.guard(bad, x.guard(bad, b)), a)), "aba");
        });
        test("A guard's second node begins where the guard does, wherever the first one failed.", () -> {
            String[] ahead = {"<a b=\"", "<a h=\"", "<s>"};
            String[] behind = {"\">", "\">", "</s>"};
            for (int i = 0; i < 3; i++) {
                Weftpage x = new Weftpage();
                setText(x, 0, "<\"&");
                int held = hole(x, 0);
                int first = rows(x, piece(x, ahead[i]), x.hole(x.argument()), piece(x, behind[i]));
                is(made(x, x.guard(first, held)), "&l\"&a");
                is(x.isSound(), true);
            }
        });
        test("A guard's fault in an item, in a partial, in a fill and in a block.", () -> {
            Weftpage x = new Weftpage();
            x.setList(0);
            x.addItem(0, 4, 0);
            x.addItem(0, 5, 1);
            int slot = x.template(x.slot());
            int b = piece(x, "b");
            int bad = x.hole(x.argument());
            int sometimes = x.choice(x.item('n'), bad, x.hole(x.item('k')));
            is(made(x, x.guard(x.loop(x.field(0), sometimes, -1), b)), "b");
            is(made(x, x.loop(x.field(0), x.guard(sometimes, b), -1)), "4b");
            is(made(x, x.guard(x.partial(slot, -1, x.row(b, bad)), b)), "b");
            is(made(x, x.guard(x.block(0, x.row(b, bad)), b)), "b");
        });
        test("A template that was made stays the present one until another one is.", () -> {
            Weftpage x = new Weftpage();
            x.setNumber(0, 1);
            int t = x.template(hole(x, 0));
            int other = x.template(piece(x, "b"));
            int wrong = x.template(piece(x, "<"));
            x.make(t);
            x.check(other);
            thrown(UNSUPPORTED, () -> x.make(wrong));
            thrown(INDEX, () -> x.make(3));
            x.setNumber(0, 2);
            is(x.refresh(), 'o');
            is(text(x), "2");
            x.setList(0);
            is(x.refresh(), 'f');
            x.setNumber(0, 3);
            is(x.refresh(), 'o');
            is(text(x), "3");
            x.make(other);
            is(x.refresh(), 'o');
            is(text(x), "b");
        });
        test("Data as they are: those of the time at which it is made, not of now.", () -> {
            Weftpage x = new Weftpage();
            x.setNumber(0, 1);
            x.make(x.template(hole(x, 0)));
            x.setNumber(0, 22);
            is(text(x), "1");
            x.refresh();
            is(text(x), "22");
        });
    }

    // The patch

    private static void replaced() {
        test("A hole that writes other letters: fewer, more, others, none; not if they are the same.", () -> {
            Weftpage x = new Weftpage();
            int h = hole(x, 0);
            x.make(x.template(h));
            String[] texts = {"", "a", "ab", "ac", "c", "c", ""};
            String last = "";
            for (String text : texts) {
                setText(x, 0, text);
                is(patch(x), text.equals(last) ? "" : "r" + h);
                is(text(x), text);
                last = text;
            }
            x.setNumber(0, 7);
            is(patch(x), "r" + h);
            Weftpage y = new Weftpage();
            int cut = y.hole(y.filter('c', y.field(0), 1));
            setText(y, 0, "ab");
            y.make(y.template(cut));
            setText(y, 0, "ac");
            is(patch(y), "");
        });
        test("A choice that is done by another of its nodes: one change, whatever it gives.", () -> {
            Weftpage x = new Weftpage();
            int h = hole(x, 1);
            int both = x.choice(x.field(0), h, x.hole(x.field(1)));
            int alone = x.choice(x.field(0), h, -1);
            x.make(x.template(x.row(both, alone)));
            x.setNumber(0, 1);
            is(patch(x), "r" + both + " r" + alone);
            x.setNumber(0, 2);
            x.setNumber(1, 1);
            is(patch(x), "r" + h + " r" + h);
            x.setNumber(0, 0);
            is(patch(x), "r" + both + " r" + alone);
            is(patch(x), "");
        });
        test("A guard that is done by another of its nodes: one change.", () -> {
            Weftpage x = new Weftpage();
            int second = hole(x, 1);
            int guard = x.guard(hole(x, 0), second);
            x.make(x.template(guard));
            x.setList(0);
            is(patch(x), "r" + guard);
            x.addItem(0, 0, 0);
            is(patch(x), "");
            x.setNumber(1, 1);
            is(patch(x), "r" + second);
            x.clear(0);
            is(patch(x), "r" + guard);
        });
        test("A guard that stays with its second node is compared in it, whatever the first one did.", () -> {
            Weftpage x = new Weftpage();
            int p = piece(x, "p");
            int h = hole(x, 0);
            int loop = x.loop(x.field(1), rows(x, p, h, p), -1);
            x.setList(1);
            x.addItem(1, 3, 0);
            int first = rows(x, p, loop, p, h, x.hole(x.argument()), p);
            int guard = x.guard(first, rows(x, h, p, h));
            x.make(x.template(x.row(guard, h)));
            is(text(x), "p");
            x.setNumber(0, 5);
            is(patch(x), "r" + h + " r" + h + " r" + h);
            x.addItem(1, 4, 0);
            is(patch(x), "");
            is(text(x), "5p55");
            Weftpage y = new Weftpage();
            int bad = y.hole(y.argument());
            int held = hole(y, 1);
            y.make(y.template(y.row(y.guard(y.choice(y.field(0), bad, y.row(bad, bad)), held), held)));
            y.setNumber(0, 1);
            is(patch(y), "");
            y.setNumber(1, 1);
            is(patch(y), "r" + held + " r" + held);
            y.setNumber(0, 0);
            is(patch(y), "");
        });
        test("A loop that had items and has none, or the other way round: one change; from nothing to an empty list none.", () -> {
            Weftpage x = new Weftpage();
            int none = hole(x, 1);
            int loop = x.loop(x.field(0), x.piece(), none);
            x.make(x.template(loop));
            x.setList(0);
            is(patch(x), "");
            x.setNumber(1, 1);
            is(patch(x), "r" + none);
            x.addItem(0, 0, 0);
            is(patch(x), "r" + loop);
            x.addItem(0, 1, 0);
            is(patch(x), "i" + loop + ",1");
            x.clear(0);
            is(patch(x), "r" + loop);
        });
        test("A later part that has come is one change, once; what is in it then is compared.", () -> {
            Weftpage x = new Weftpage();
            int h = hole(x, 0);
            int later = x.later(3, h);
            x.make(x.template(later));
            is(patch(x), "");
            x.comes(0);
            is(patch(x), "");
            x.comes(3);
            is(patch(x), "r" + later);
            x.comes(3);
            is(patch(x), "");
            x.setNumber(0, 1);
            is(patch(x), "r" + h);
            Weftpage y = new Weftpage();
            int empty = y.later(0, y.piece());
            y.make(y.template(empty));
            y.comes(0);
            is(patch(y), "r" + empty);
        });
        test("Otherwise what was done is compared part by part: partials, slots and blocks, in the order of the new one.", () -> {
            Weftpage x = new Weftpage();
            int a = x.hole(x.argument());
            int inner = x.template(rows(x, a, x.slot(), a));
            int fill = hole(x, 1);
            int own = hole(x, 0);
            int block = x.block(0, own);
            x.make(x.template(rows(x, x.partial(inner, x.field(0), fill), block)));
            x.setNumber(0, 1);
            is(patch(x), "r" + a + " r" + a + " r" + own);
            x.setNumber(1, 1);
            is(patch(x), "r" + fill);
        });
    }

    private static String moved(String before, String after) {
        Weftpage x = new Weftpage();
        int loop = x.loop(x.field(0), x.hole(x.item('k')), -1);
        x.template(loop);
        keys(x, before);
        x.make(0);
        keys(x, after);
        String patch = patch(x);
        is(text(x), after);
        return patch.replace(loop + ",", "");
    }

    private static void keys(Weftpage x, String keys) {
        x.setList(0);
        for (char key : keys.toCharArray()) {
            x.addItem(0, key - '0', 0);
        }
    }

    private static void listed() {
        test("Items are the same by their keys, not by their places, numbers or texts.", () -> {
            Weftpage x = new Weftpage();
            int h = x.hole(x.item('t'));
            int loop = x.loop(x.field(0), h, -1);
            x.template(loop);
            x.setList(0);
            add(x, 0, 0, 0, "a");
            add(x, 0, 99, 0, "b");
            x.make(0);
            x.setList(0);
            add(x, 0, 99, 5, "b");
            is(patch(x), "d" + loop + ",0");
            x.setList(0);
            add(x, 0, 99, 5, "c");
            is(patch(x), "r" + h);
            x.setList(0);
            add(x, 0, 98, 5, "c");
            is(patch(x), "d" + loop + ",99 i" + loop + ",98");
        });
        test("'d' for each one that is gone, in the old order: the first, the last, all.", () -> {
            is(moved("321", "21"), "d3");
            is(moved("321", "32"), "d1");
            is(moved("321", "4"), "d3 d2 d1 i4");
            is(moved("87654321", "9"), "d8 d7 d6 d5 d4 d3 d2 d1 i9");
        });
        test("Then, in the new order, 'i' for each new one.", () -> {
            is(moved("5", "65"), "i6");
            is(moved("5", "56"), "i6");
            is(moved("5", "98"), "d5 i9 i8");
            is(moved("5", "98765432"), "i9 i8 i7 i6 i4 i3 i2");
        });
        test("'m' for each one that is moved; the fewest are.", () -> {
            is(moved("12", "21"), "m1");
            is(moved("123", "312"), "m3");
            is(moved("123", "231"), "m1");
            is(moved("12345678", "81234567"), "m8");
            is(moved("12345678", "23456781"), "m1");
            is(moved("12345678", "12345678"), "");
        });
        test("Those that stay are a longest row, of several the one whose first place in the new order is lowest, then the second.", () -> {
            is(moved("123", "321"), "m2 m1");
            is(moved("1234", "2143"), "m1 m3");
            is(moved("1234", "3142"), "m1 m2");
            is(moved("12345", "34512"), "m1 m2");
            is(moved("12345", "21354"), "m1 m4");
            is(moved("123456", "415263"), "m1 m2 m3");
            is(moved("123456", "142536"), "m2 m3");
            is(moved("12345678", "87654321"), "m7 m6 m5 m4 m3 m2 m1");
            is(moved("12345678", "56781234"), "m1 m2 m3 m4");
        });
        test("The fewest, of each of several patches one behind the other.", () -> {
            Weftpage x = new Weftpage();
            int loop = x.loop(x.field(0), x.hole(x.item('k')), -1);
            x.template(loop);
            keys(x, "12345678");
            x.make(0);
            String[] orders = {"12345678", "87654321", "78654321", "12", "21", "213", "32145678", "32145678", "45678321"};
            String[] due = {"", "m7 m6 m5 m4 m3 m2 m1", "m8", "d7 d8 d6 d5 d4 d3 m2", "m1", "i3", "m3 i4 i5 i6 i7 i8", "", "m3 m2 m1"};
            for (int i = 0; i < orders.length; i++) {
                keys(x, orders[i]);
                is(patch(x).replace(loop + ",", ""), due[i]);
                is(text(x), orders[i]);
            }
        });
        test("'d' is of the loop's own items: the same key in another loop behind it does not count.", () -> {
            Weftpage x = new Weftpage();
            int p = piece(x, "p");
            int one = x.loop(x.field(0), p, -1);
            int two = x.loop(x.field(1), p, -1);
            x.template(x.row(one, two));
            keys(x, "123");
            x.setList(1);
            x.addItem(1, 5, 0);
            x.addItem(1, 6, 0);
            x.addItem(1, 7, 0);
            x.make(0);
            is(patch(x), "");
            keys(x, "12");
            x.addItem(1, 3, 0);
            is(patch(x), "d" + one + ",3 i" + two + ",3");
            keys(x, "312");
            x.takeItem(1, 3);
            is(patch(x), "i" + one + ",3 d" + two + ",3");
        });
        test("All three at once, and a change within one that stays or is moved, behind its 'm'.", () -> {
            is(moved("1234", "4516"), "d2 d3 i5 m1 i6");
            Weftpage x = new Weftpage();
            int h = x.hole(x.item('i'));
            int loop = x.loop(x.field(0), h, -1);
            x.template(loop);
            keys(x, "123");
            x.make(0);
            keys(x, "312");
            is(patch(x), "m" + loop + ",3 r" + h + " r" + h + " r" + h);
            keys(x, "42");
            is(patch(x), "d" + loop + ",3 d" + loop + ",1 i" + loop + ",4 r" + h);
        });
        test("Loops within loops: the changes of an inner one stand within those of its item.", () -> {
            Weftpage x = new Weftpage();
            int inner = x.loop(x.field(1), x.hole(x.item('k')), -1);
            int outer = x.loop(x.field(0), x.row(x.hole(x.item('k')), inner), -1);
            x.template(outer);
            keys(x, "12");
            x.setList(1);
            x.addItem(1, 7, 0);
            x.make(0);
            keys(x, "213");
            x.addItem(1, 8, 0);
            String in = "i" + inner + ",8";
            is(patch(x), in + " m" + outer + ",1 " + in + " i" + outer + ",3");
            is(text(x), "278178378");
        });
    }

    // A whole new output

    private static void whole() {
        test("A refreshing that fails leaves no output; the one behind it has one change, 'r', of the template's node.", () -> {
            Weftpage x = new Weftpage();
            int root = x.row(piece(x, "a"), hole(x, 0));
            int base = x.template(root);
            int t = x.extend(base);
            x.make(t);
            x.setList(0);
            is(patch(x), "fault t");
            thrown(STATE, x::length);
            is(x.changes(), 0);
            is(patch(x), "fault t");
            x.clear(0);
            is(patch(x), "r" + root);
            is(patch(x), "");
        });
        test("One change, 'r', as also if a block was overridden since, in any template, once.", () -> {
            Weftpage x = new Weftpage();
            int root = piece(x, "a");
            int t = x.template(root);
            int other = x.extend(x.template(x.piece()));
            x.override(other, 0, root);
            x.make(t);
            is(patch(x), "");
            x.override(other, 0, root);
            is(patch(x), "r" + root);
            is(patch(x), "");
            x.override(other, 3, root);
            x.make(t);
            is(patch(x), "");
        });
        test("An override that is refused leaves the next patch as it is.", () -> {
            Weftpage x = new Weftpage();
            int root = piece(x, "a");
            int t = x.template(root);
            int other = x.extend(t);
            x.make(t);
            thrown(UNSUPPORTED, () -> x.override(t, 0, root));
            thrown(ARGUMENT, () -> x.override(other, 4, root));
            thrown(INDEX, () -> x.override(other, 0, 1));
            is(patch(x), "");
        });
        test("Overridden since a refreshing that is refused, and since one that failed.", () -> {
            Weftpage x = new Weftpage();
            int block = x.block(0, hole(x, 0));
            int base = x.template(block);
            int t = x.extend(base);
            x.make(t);
            x.override(t, 0, piece(x, "<"));
            thrown(UNSUPPORTED, x::refresh);
            x.override(t, 0, hole(x, 0));
            is(patch(x), "r" + block);
            x.override(t, 0, x.hole(x.argument()));
            is(patch(x), "fault a");
            x.override(t, 0, hole(x, 0));
            is(patch(x), "r" + block);
            is(patch(x), "");
        });
    }

    static void all() {
        checkedCounts();
        doneCounts();
        deepest();
        presence();
        replaced();
        listed();
        whole();
    }

    public static void main(String[] args) {
        all();
        end("OutputTests");
    }
}
