/** At least one test for each promise: ordinary inputs, the edges that the document names, wrong inputs. */
public final class PromiseTests extends Checks {
    // Data

    private static void promise1() {
        about = "promise 1";
        Weftpage x = new Weftpage();
        is(x.nodes(), 0);
        for (int f = 0; f < 6; f++) {
            is(x.has(f), '-');
        }
        thrown(INDEX, () -> x.check(0));
        thrown(STATE, () -> x.length());
        is(x.changes(), 0);
        is(x.written(), 0L);
        is(x.isSound(), true);
        is(x.type('a'), 1);
        is(new Weftpage().type('a'), 1);
    }

    private static void promise2() {
        about = "promise 2";
        Weftpage x = new Weftpage();
        String letters = "abcdefghijklmnopqrstuvwxyz <>/=\"&:#";
        for (int c = 0; c < 300; c++) {
            Weftpage y = new Weftpage();
            char letter = (char) c;
            if (letters.indexOf(letter) >= 0) {
                is(y.type(letter), 1);
            } else {
                thrown(ARGUMENT, () -> y.type(letter));
            }
        }
        for (int i = 1; i <= 24; i++) {
            is(x.type('b'), i);
        }
        thrown(STATE, () -> x.type('b'));
        thrown(ARGUMENT, () -> x.type('B'));
        is(made(x, x.piece()), "bbbbbbbbbbbbbbbbbbbbbbbb");
        is(x.type('a'), 1);
    }

    private static void promise3() {
        about = "promise 3";
        Weftpage x = new Weftpage();
        is(x.setNumber(0, -999), '-');
        is(x.setNumber(0, 999), 'n');
        x.setText(0);
        is(x.setNumber(0, 5), 't');
        x.setList(0);
        is(x.setNumber(0, 7), 'l');
        is(made(x, hole(x, 0)), "7");
        thrown(INDEX, () -> x.setNumber(6, 1000));
        thrown(INDEX, () -> x.setNumber(-1, 0));
        thrown(ARGUMENT, () -> x.setNumber(0, 1000));
        thrown(ARGUMENT, () -> x.setNumber(0, -1000));
        is(made(x, hole(x, 0)), "7");
    }

    private static void promise4() {
        about = "promise 4";
        Weftpage x = new Weftpage();
        type(x, "ab");
        is(x.setText(5), '-');
        is(x.has(5), 't');
        is(made(x, hole(x, 5)), "ab");
        type(x, "c");
        thrown(INDEX, () -> x.setText(6));
        thrown(INDEX, () -> x.setText(-1));
        is(x.setText(5), 't');
        is(made(x, hole(x, 5)), "c");
        is(x.setText(5), 't');
        is(made(x, hole(x, 5)), "");
        x.setNumber(4, 1);
        is(x.setText(4), 'n');
        x.setList(4);
        is(x.setText(4), 'l');
    }

    private static void promise5() {
        about = "promise 5";
        Weftpage x = new Weftpage();
        is(x.setList(0), '-');
        x.addItem(0, 1, 1);
        is(x.setList(0), 'l');
        is(x.items(0), 0);
        x.setNumber(0, 1);
        is(x.setList(0), 'n');
        x.setText(0);
        is(x.setList(0), 't');
        thrown(INDEX, () -> x.setList(6));
        thrown(INDEX, () -> x.setList(-1));
    }

    private static void promise6() {
        about = "promise 6";
        Weftpage x = new Weftpage();
        is(x.clear(0), '-');
        x.setNumber(0, 1);
        is(x.clear(0), 'n');
        is(x.has(0), '-');
        x.setText(0);
        is(x.clear(0), 't');
        x.setList(0);
        is(x.clear(0), 'l');
        is(made(x, hole(x, 0)), "");
        thrown(INDEX, () -> x.clear(6));
        thrown(INDEX, () -> x.clear(-1));
    }

    private static void promise7() {
        about = "promise 7";
        Weftpage x = new Weftpage();
        x.setNumber(1, 0);
        x.setText(2);
        x.setList(3);
        is("" + x.has(0) + x.has(1) + x.has(2) + x.has(3), "-ntl");
        thrown(INDEX, () -> x.has(6));
        thrown(INDEX, () -> x.has(-1));
    }

    private static void promise8() {
        about = "promise 8";
        Weftpage x = new Weftpage();
        thrown(UNSUPPORTED, () -> x.addItem(0, 0, 0));
        x.setList(0);
        thrown(INDEX, () -> x.addItem(6, 100, 0));
        thrown(ARGUMENT, () -> x.addItem(1, 100, 0));
        thrown(ARGUMENT, () -> x.addItem(0, -1, 0));
        thrown(ARGUMENT, () -> x.addItem(0, 0, 1000));
        thrown(ARGUMENT, () -> x.addItem(0, 0, -1000));
        for (int i = 1; i <= 8; i++) {
            is(add(x, 0, i == 8 ? 99 : i, i, "a"), i);
        }
        type(x, "zz");
        thrown(UNSUPPORTED, () -> x.addItem(0, 99, 0));
        thrown(STATE, () -> x.addItem(0, 0, 0));
        x.takeItem(0, 0);
        is(x.addItem(0, 0, 999), 8);
        int body = rows(x, x.hole(x.item('k')), x.hole(x.item('n')), x.hole(x.item('t')), piece(x, "/"));
        is(made(x, x.loop(x.field(0), body, -1)), "22a/33a/44a/55a/66a/77a/998a/0999zz/");
    }

    private static void promise9() {
        about = "promise 9";
        Weftpage x = new Weftpage();
        thrown(INDEX, () -> x.setItem(6, 0, 1000));
        thrown(ARGUMENT, () -> x.setItem(0, 0, 1000));
        thrown(ARGUMENT, () -> x.setItem(0, 0, -1000));
        thrown(UNSUPPORTED, () -> x.setItem(0, 0, 0));
        x.setList(0);
        thrown(ELEMENT, () -> x.setItem(0, 0, 0));
        x.addItem(0, 3, 5);
        x.addItem(0, 4, 6);
        is(x.setItem(0, 1, -9), 6);
        is(x.setItem(0, 1, 9), -9);
        thrown(ELEMENT, () -> x.setItem(0, 2, 0));
        thrown(ELEMENT, () -> x.setItem(0, -1, 0));
        is(made(x, x.loop(x.field(0), x.hole(x.item('n')), -1)), "59");
    }

    private static void promise10() {
        about = "promise 10";
        Weftpage x = new Weftpage();
        thrown(INDEX, () -> x.takeItem(-1, 0));
        thrown(UNSUPPORTED, () -> x.takeItem(0, 0));
        x.setList(0);
        thrown(ELEMENT, () -> x.takeItem(0, 0));
        for (int i = 0; i < 3; i++) {
            x.addItem(0, i + 10, 0);
        }
        is(x.takeItem(0, 1), 11);
        is(x.takeItem(0, 1), 12);
        thrown(ELEMENT, () -> x.takeItem(0, 1));
        thrown(ELEMENT, () -> x.takeItem(0, -1));
        is(x.items(0), 1);
        is(x.takeItem(0, 0), 10);
    }

    private static void promise11() {
        about = "promise 11";
        Weftpage x = new Weftpage();
        thrown(INDEX, () -> x.moveItem(6, 0, 0));
        thrown(UNSUPPORTED, () -> x.moveItem(0, 0, 0));
        x.setList(0);
        thrown(ELEMENT, () -> x.moveItem(0, 0, 0));
        for (int i = 0; i < 4; i++) {
            x.addItem(0, i, 0);
        }
        int t = x.template(x.loop(x.field(0), x.hole(x.item('k')), -1));
        is(x.moveItem(0, 0, 3), 0);
        is(made2(x, t), "1230");
        is(x.moveItem(0, 2, 1), 3);
        is(made2(x, t), "1320");
        is(x.moveItem(0, 2, 2), 2);
        is(made2(x, t), "1320");
        thrown(ELEMENT, () -> x.moveItem(0, 4, 0));
        thrown(ELEMENT, () -> x.moveItem(0, 0, 4));
        thrown(ELEMENT, () -> x.moveItem(0, -1, 0));
        thrown(ELEMENT, () -> x.moveItem(0, 0, -1));
        is(made2(x, t), "1320");
    }

    private static void promise12() {
        about = "promise 12";
        Weftpage x = new Weftpage();
        thrown(INDEX, () -> x.items(6));
        thrown(UNSUPPORTED, () -> x.items(0));
        x.setText(0);
        thrown(UNSUPPORTED, () -> x.items(0));
        x.setList(0);
        is(x.items(0), 0);
        x.addItem(0, 1, 1);
        is(x.items(0), 1);
    }

    // Nodes

    private static Weftpage full() {
        Weftpage x = new Weftpage();
        for (int i = 0; i < 50; i++) {
            x.piece();
            x.number(0);
        }
        return x;
    }

    private static void promise13() {
        about = "promise 13";
        Weftpage x = new Weftpage();
        is(x.field(0), 0);
        is(x.field(5), 1);
        thrown(INDEX, () -> x.field(6));
        thrown(INDEX, () -> x.field(-1));
        thrown(INDEX, () -> full().field(6));
        thrown(STATE, () -> full().field(0));
        x.setNumber(5, 8);
        is(made(x, x.hole(1)), "8");
    }

    private static void promise14() {
        about = "promise 14";
        Weftpage x = new Weftpage();
        x.setList(0);
        add(x, 0, 70, 5, "a");
        add(x, 0, 80, 6, "b");
        int row = rows(x, x.hole(x.item('k')), x.hole(x.item('n')), x.hole(x.item('t')), x.hole(x.item('i')));
        is(made(x, x.loop(x.field(0), row, -1)), "705a0806b1");
        is(made(x, row), "fault i");
        thrown(ARGUMENT, () -> x.item('x'));
        thrown(ARGUMENT, () -> full().item('x'));
        thrown(STATE, () -> full().item('k'));
        x.setList(1);
        x.addItem(1, 3, 0);
        int inner = x.loop(x.field(1), x.hole(x.item('k')), -1);
        is(made(x, x.loop(x.field(0), x.row(inner, x.hole(x.item('i'))), -1)), "3031");
        int t = x.template(x.hole(x.item('i')));
        is(made(x, x.loop(x.field(0), x.partial(t, -1, -1), -1)), "fault i");
    }

    private static void promise15() {
        about = "promise 15";
        Weftpage x = new Weftpage();
        int hole = x.hole(x.argument());
        int t = x.template(hole);
        x.setNumber(0, 12);
        is(made(x, x.partial(t, x.field(0), -1)), "12");
        is(made(x, x.partial(t, -1, -1)), "");
        is(made(x, hole), "fault a");
        is(made(x, x.partial(t, x.field(0), hole)), "12");
        int u = x.template(x.slot());
        is(made(x, x.partial(u, x.field(0), hole)), "fault a");
        thrown(STATE, () -> full().argument());
    }

    private static void promise16() {
        about = "promise 16";
        Weftpage x = new Weftpage();
        is(x.number(-999), 0);
        is(x.number(999), 1);
        is(made(x, x.row(x.hole(0), x.hole(1))), "-999999");
        is(made(x, x.hole(x.number(0))), "0");
        thrown(ARGUMENT, () -> x.number(1000));
        thrown(ARGUMENT, () -> x.number(-1000));
        thrown(ARGUMENT, () -> full().number(1000));
        thrown(STATE, () -> full().number(1));
    }

    private static String filtered(Weftpage x, char kind, int n) {
        return made(x, x.hole(x.filter(kind, 0, n)));
    }

    private static void promise17() {
        about = "promise 17";
        String kinds = "lucd+p";
        String[] nothing = {"fault t", "fault t", "fault t", "7", "fault t", "fault t"};
        String[] number = {"fault t", "fault t", "fault t", "2", "9", "s"};
        String[] text = {"9", "AB:/Z C#D", "ab:/z c", "ab:/z c#d", "fault t", "fault t"};
        String[] list = {"1", "fault t", "fault t", "fault t", "fault t", "fault t"};
        String[][] due = {nothing, number, text, list};
        for (int has = 0; has < 4; has++) {
            for (int k = 0; k < 6; k++) {
                Weftpage x = new Weftpage();
                x.field(0);
                if (has == 1) {
                    x.setNumber(0, 2);
                } else if (has == 2) {
                    setText(x, 0, "ab:/z c#d");
                } else if (has == 3) {
                    x.setList(0);
                    x.addItem(0, 1, 1);
                }
                is(filtered(x, kinds.charAt(k), 7), due[has][k]);
            }
        }
        Weftpage x = new Weftpage();
        x.field(0);
        x.setNumber(0, 1);
        is(filtered(x, 'p', 0), "");
        x.setNumber(0, -1);
        is(filtered(x, 'p', 0), "s");
        is(filtered(x, '+', 99), "98");
        x.setText(0);
        is(filtered(x, 'l', 0), "0");
        is(filtered(x, 'c', 0), "");
        x.clear(0);
        is(made(x, x.hole(x.filter('+', x.filter('d', 0, 99), 99))), "198");
        wrongFilters();
    }

    private static void wrongFilters() {
        Weftpage x = new Weftpage();
        x.number(1);
        x.piece();
        thrown(ARGUMENT, () -> x.filter('x', 9, 0));
        for (char kind : "cd+".toCharArray()) {
            thrown(ARGUMENT, () -> x.filter(kind, 9, 100));
            thrown(ARGUMENT, () -> x.filter(kind, 0, -1));
        }
        for (char kind : "lup".toCharArray()) {
            thrown(INDEX, () -> x.filter(kind, 9, 100));
            is(x.filter(kind, 0, -100) > 0, true);
        }
        thrown(INDEX, () -> x.filter('l', 1, 0));
        thrown(INDEX, () -> x.filter('l', -1, 0));
        thrown(INDEX, () -> full().filter('l', 100, 0));
        thrown(STATE, () -> full().filter('l', 1, 0));
    }

    private static void promise18() {
        about = "promise 18";
        Weftpage x = new Weftpage();
        is(piece(x, "a<b>"), 0);
        is(x.piece(), 1);
        is(made(x, x.row(0, 1)), "a<b>");
        Weftpage y = full();
        type(y, "ab");
        thrown(STATE, () -> y.piece());
        is(y.type('c'), 3);
    }

    private static String holeIn(String before, String text, String behind) {
        Weftpage x = new Weftpage();
        setText(x, 0, text);
        return made(x, rows(x, piece(x, before), hole(x, 0), piece(x, behind)));
    }

    private static void promise19() {
        about = "promise 19";
        is(holeIn("", "a<b>&\" c", ""), "a&lb&g&a\" c");
        is(holeIn("<a c=\"", "a<b>&\" c", "\">"), "<a c=\"a&lb&g&a&q c\">");
        is(holeIn("<a h=\"", "a<b>&\" =#:/z", "\">"), "<a h=\"a%27b%28%32%31%26%30%34:/z\">");
        is(holeIn("<a h=\"", "j:a<", "\">"), "<a h=\"#\">");
        is(holeIn("<a h=\"", "j:", "\">"), "<a h=\"#\">");
        is(holeIn("<a h=\"", "aj:", "\">"), "<a h=\"aj:\">");
        is(holeIn("<a h=\"", "", "\">"), "<a h=\"\">");
        is(holeIn("<s>", "a<b>&\" c", "</s>"), "<s>\"a\\lb>&\\q c\"</s>");
        is(holeIn("<s>", "", "</s>"), "<s>\"\"</s>");
        holeInMuch();
        Weftpage y = new Weftpage();
        setText(y, 0, "j:aq");
        int upper = y.hole(y.filter('u', y.field(0), 0));
        is(made(y, rows(y, piece(y, "<a h=\""), upper, piece(y, "\">"))), "<a h=\"J:AQ\">");
        y.setNumber(0, -12);
        is(made(y, rows(y, piece(y, "<a h=\""), hole(y, 0), piece(y, "\">"))), "<a h=\"-12\">");
        is(made(y, rows(y, piece(y, "<s>"), hole(y, 0), piece(y, "</s>"))), "<s>\"-12\"</s>");
        y.setList(0);
        is(made(y, hole(y, 0)), "fault t");
        thrown(INDEX, () -> y.hole(upper));
        thrown(INDEX, () -> y.hole(-1));
        thrown(INDEX, () -> y.hole(y.nodes()));
        thrown(INDEX, () -> full().hole(100));
        thrown(STATE, () -> full().hole(1));
    }

    /** Outputs that are longer than any other's. */
    private static void holeInMuch() {
        Weftpage x = new Weftpage();
        x.setList(0);
        for (int i = 0; i < 8; i++) {
            add(x, 0, i, 0, "########################");
        }
        int hole = x.hole(x.item('t'));
        int loop = x.loop(x.field(0), x.loop(x.field(0), rows(x, hole, hole, hole), -1), -1);
        String coded = "%34".repeat(24 * 3 * 64);
        is(x.make(x.template(rows(x, piece(x, "<a h=\""), loop, piece(x, "\">")))), 'o');
        is(ends(x), ends("<a h=\"" + coded + "\">"));
        is(x.refresh(), 'o');
        is(ends(x), ends("<a h=\"" + coded + "\">"));
        is(x.isSound(), true);
        int p = piece(x, "abcdefghijklmnopqrstuvwx");
        is(x.make(x.template(x.loop(x.field(0), rows(x, p, p, p), -1))), 'o');
        is(ends(x), ends("abcdefghijklmnopqrstuvwx".repeat(24)));
    }

    private static void promise20() {
        about = "promise 20";
        Weftpage x = new Weftpage();
        int a = piece(x, "a");
        int b = piece(x, "b");
        is(made(x, x.row(a, b)), "ab");
        is(made(x, x.row(b, b)), "bb");
        int v = x.number(1);
        thrown(INDEX, () -> x.row(a, v));
        thrown(INDEX, () -> x.row(v, a));
        thrown(INDEX, () -> x.row(-1, a));
        thrown(INDEX, () -> x.row(a, 99));
        thrown(INDEX, () -> full().row(0, 100));
        thrown(STATE, () -> full().row(0, 0));
    }

    private static void promise21() {
        about = "promise 21";
        Weftpage x = new Weftpage();
        int f = x.field(0);
        int yes = piece(x, "y");
        int no = piece(x, "n");
        int t = x.template(x.choice(f, yes, no));
        int u = x.template(x.choice(f, yes, -1));
        is(made2(x, t) + made2(x, u), "n");
        x.setNumber(0, 0);
        is(made2(x, t) + made2(x, u), "n");
        x.setText(0);
        is(made2(x, t) + made2(x, u), "n");
        x.setList(0);
        is(made2(x, t) + made2(x, u), "n");
        x.addItem(0, 0, 0);
        is(made2(x, t) + made2(x, u), "yy");
        x.setNumber(0, -1);
        is(made2(x, t) + made2(x, u), "yy");
        setText(x, 0, " ");
        is(made2(x, t) + made2(x, u), "yy");
        is(made(x, x.choice(x.argument(), yes, no)), "fault a");
        thrown(INDEX, () -> x.choice(yes, yes, no));
        thrown(INDEX, () -> x.choice(f, f, no));
        thrown(INDEX, () -> x.choice(f, yes, f));
        thrown(INDEX, () -> x.choice(f, -1, no));
        thrown(INDEX, () -> x.choice(f, yes, -2));
        thrown(INDEX, () -> full().choice(1, 0, 100));
        thrown(STATE, () -> full().choice(1, 0, 0));
    }

    private static void promise22() {
        about = "promise 22";
        Weftpage x = new Weftpage();
        int f = x.field(0);
        int body = piece(x, "i");
        int none = piece(x, "o");
        int t = x.template(x.loop(f, body, none));
        int u = x.template(x.loop(f, body, -1));
        is(made2(x, t) + made2(x, u), "o");
        x.setList(0);
        is(made2(x, t) + made2(x, u), "o");
        x.addItem(0, 1, 1);
        x.addItem(0, 2, 1);
        is(made2(x, t) + made2(x, u), "iiii");
        is(made(x, x.row(x.loop(f, body, none), x.loop(x.field(1), body, none))), "iio");
        x.setNumber(0, 0);
        is(made2(x, t), "fault t");
        x.setText(0);
        is(made2(x, u), "fault t");
        thrown(INDEX, () -> x.loop(body, body, none));
        thrown(INDEX, () -> x.loop(f, f, none));
        thrown(INDEX, () -> x.loop(f, body, f));
        thrown(INDEX, () -> x.loop(f, -1, none));
        thrown(INDEX, () -> x.loop(f, body, -2));
        thrown(INDEX, () -> full().loop(1, 0, 100));
        thrown(STATE, () -> full().loop(1, 0, 0));
    }

    private static void promise23() {
        about = "promise 23";
        Weftpage x = new Weftpage();
        int f = x.field(0);
        int list = x.template(x.loop(x.argument(), x.hole(x.item('k')), -1));
        int box = x.template(rows(x, piece(x, "="), x.slot(), piece(x, "#")));
        x.setList(0);
        x.addItem(0, 4, 0);
        x.addItem(0, 5, 0);
        int p = x.partial(list, f, -1);
        is(made(x, x.partial(box, -1, p)), "=45#");
        is(made(x, x.partial(box, -1, -1)), "=#");
        is(made(x, x.partial(list, -1, p)), "");
        is(made(x, x.guard(x.partial(box, x.item('k'), p), piece(x, "e"))), "e");
        thrown(INDEX, () -> x.partial(4 + 8, -1, -1));
        thrown(INDEX, () -> x.partial(-1, -1, -1));
        thrown(INDEX, () -> x.partial(0, p, -1));
        thrown(INDEX, () -> x.partial(0, -1, f));
        thrown(INDEX, () -> x.partial(0, -2, -1));
        thrown(INDEX, () -> x.partial(0, -1, -2));
        Weftpage y = full();
        thrown(INDEX, () -> y.partial(0, -1, -1));
        y.template(0);
        thrown(STATE, () -> y.partial(0, -1, -1));
    }

    private static void promise24() {
        about = "promise 24";
        Weftpage x = new Weftpage();
        int slot = x.slot();
        is(made(x, slot), "");
        int inner = x.template(x.loop(x.field(0), slot, -1));
        x.setList(0);
        x.addItem(0, 1, 0);
        x.addItem(0, 2, 0);
        x.setList(1);
        add(x, 1, 7, 0, "a");
        add(x, 1, 8, 0, "b");
        int fill = x.row(x.hole(x.item('t')), x.hole(x.argument()));
        int mid = x.loop(x.field(1), x.partial(inner, x.number(3), x.row(fill, slot)), -1);
        int middle = x.template(mid);
        is(made(x, x.partial(middle, x.number(9), piece(x, "z"))), "a9za9zb9zb9z");
        thrown(STATE, () -> full().slot());
    }

    private static void promise25() {
        about = "promise 25";
        Weftpage x = new Weftpage();
        int f = x.field(0);
        int p = piece(x, "p");
        int block = x.block(3, p);
        int t = x.template(x.loop(f, block, -1));
        x.setList(0);
        x.addItem(0, 8, 0);
        is(made2(x, t), "p");
        int e = x.extend(t);
        x.override(e, 3, x.hole(x.item('k')));
        is(made2(x, e), "8");
        is(made2(x, t), "p");
        x.addItem(0, 9, 0);
        is(made2(x, e), "89");
        int callsT = x.partial(t, -1, -1);
        int base = x.template(x.row(block, callsT));
        int e2 = x.extend(base);
        x.override(e2, 3, piece(x, "q"));
        is(made2(x, e2), "qpp");
        thrown(ARGUMENT, () -> x.block(4, 99));
        thrown(ARGUMENT, () -> x.block(-1, p));
        thrown(INDEX, () -> x.block(0, f));
        thrown(INDEX, () -> x.block(0, -1));
        thrown(INDEX, () -> full().block(0, 100));
        thrown(STATE, () -> full().block(0, 0));
    }

    private static void promise26() {
        about = "promise 26";
        Weftpage x = new Weftpage();
        int up = x.up();
        is(made(x, up), "");
        int own = x.row(piece(x, "o"), up);
        int b0 = x.block(0, own);
        int base = x.template(b0);
        int b1 = x.block(1, x.row(piece(x, "c"), up));
        int one = x.extend(base);
        x.override(one, 0, rows(x, piece(x, "a"), up, b1));
        is(made2(x, one), "aoc");
        int two = x.extend(one);
        x.override(two, 0, rows(x, up, piece(x, "b"), up));
        is(made2(x, two), "aocbaoc");
        int three = x.extend(two);
        is(made2(x, three), "aocbaoc");
        x.override(three, 1, x.row(piece(x, "d"), up));
        is(made2(x, three), "aodcbaodc");
        int slot = x.template(x.slot());
        x.override(three, 0, x.partial(slot, -1, x.row(piece(x, "f"), up)));
        is(made2(x, three), "faodcbaodc");
        upInLoops();
        thrown(STATE, () -> full().up());
    }

    private static void upInLoops() {
        Weftpage x = new Weftpage();
        int up = x.up();
        int ups = x.template(up);
        int block = x.block(2, piece(x, "o"));
        int base = x.template(x.row(block, x.partial(ups, -1, -1)));
        int e = x.extend(base);
        x.setList(0);
        x.addItem(0, 1, 0);
        x.addItem(0, 2, 0);
        x.override(e, 2, x.loop(x.field(0), x.row(x.hole(x.item('k')), up), -1));
        is(made2(x, e), "1o2o");
        x.override(e, 2, x.row(x.partial(ups, -1, -1), piece(x, "a")));
        is(made2(x, e), "a");
    }

    private static void promise27() {
        about = "promise 27";
        Weftpage x = new Weftpage();
        int bad = x.hole(x.argument());
        int a = piece(x, "a");
        int b = piece(x, "b");
        is(made(x, x.guard(x.row(a, bad), b)), "b");
        is(made(x, x.guard(x.row(a, a), b)), "aa");
        int inner = x.guard(x.row(a, bad), x.row(b, bad));
        is(made(x, inner), "fault a");
        is(made(x, x.row(a, x.guard(x.row(a, inner), b))), "ab");
        x.setNumber(0, 1);
        int loop = x.loop(x.field(0), a, b);
        is(made(x, x.guard(loop, x.loop(x.field(1), a, b))), "b");
        setText(x, 0, "<");
        int open = rows(x, a, piece(x, "<a b=\""), bad, piece(x, "\">"));
        int held = hole(x, 0);
        is(made(x, x.guard(open, held)), "&l");
        is(x.writerOf(0), held);
        setText(x, 0, ">");
        is(patch(x), "r" + held);
        is(text(x), "&g");
        int v = x.number(1);
        thrown(INDEX, () -> x.guard(a, v));
        thrown(INDEX, () -> x.guard(v, a));
        thrown(INDEX, () -> x.guard(a, -1));
        thrown(INDEX, () -> full().guard(0, 100));
        thrown(STATE, () -> full().guard(0, 0));
    }

    private static void promise28() {
        about = "promise 28";
        Weftpage x = new Weftpage();
        int p = piece(x, "p");
        int t = x.template(x.row(x.later(3, p), x.later(0, x.hole(x.argument()))));
        is(made2(x, t), "");
        x.comes(3);
        is(made2(x, t), "p");
        x.comes(0);
        is(made2(x, t), "fault a");
        int v = x.number(1);
        thrown(ARGUMENT, () -> x.later(4, 99));
        thrown(ARGUMENT, () -> x.later(-1, p));
        thrown(INDEX, () -> x.later(0, v));
        thrown(INDEX, () -> x.later(0, -1));
        thrown(INDEX, () -> full().later(0, 100));
        thrown(STATE, () -> full().later(0, 0));
    }

    private static void promise29() {
        about = "promise 29";
        Weftpage x = new Weftpage();
        is(x.nodes(), 0);
        x.piece();
        x.number(1);
        is(x.nodes(), 2);
        thrown(INDEX, () -> x.hole(0));
        is(x.nodes(), 2);
        is(full().nodes(), 100);
    }

    // Templates

    private static void promise30() {
        about = "promise 30";
        Weftpage x = new Weftpage();
        x.piece();
        x.number(1);
        for (int i = 0; i < 8; i++) {
            is(x.template(0), i);
        }
        thrown(STATE, () -> x.template(0));
        thrown(INDEX, () -> x.template(1));
        thrown(INDEX, () -> x.template(2));
        thrown(INDEX, () -> x.template(-1));
    }

    private static void promise31() {
        about = "promise 31";
        Weftpage x = new Weftpage();
        thrown(INDEX, () -> x.extend(0));
        x.template(piece(x, "a"));
        for (int i = 1; i < 8; i++) {
            is(x.extend(i - 1), i);
        }
        is(made2(x, 7), "a");
        thrown(STATE, () -> x.extend(0));
        thrown(INDEX, () -> x.extend(8));
        thrown(INDEX, () -> x.extend(-1));
    }

    private static void promise32() {
        about = "promise 32";
        Weftpage x = new Weftpage();
        int a = piece(x, "a");
        int b = piece(x, "b");
        int v = x.number(1);
        x.template(x.row(x.block(0, a), x.block(1, a)));
        int e = x.extend(0);
        is(x.override(e, 0, b), false);
        is(made2(x, e), "ba");
        is(x.override(e, 0, a), true);
        is(x.override(e, 1, b), false);
        is(made2(x, e), "ab");
        thrown(INDEX, () -> x.override(9, 9, a));
        thrown(INDEX, () -> x.override(-1, 0, a));
        thrown(INDEX, () -> x.override(0, 9, v));
        thrown(INDEX, () -> x.override(0, 9, -1));
        thrown(ARGUMENT, () -> x.override(0, 4, a));
        thrown(ARGUMENT, () -> x.override(e, -1, a));
        thrown(UNSUPPORTED, () -> x.override(0, 0, a));
        is(made2(x, e), "ab");
    }

    private static String checkedText(String text) {
        Weftpage x = new Weftpage();
        return checked(x, x.template(piece(x, text)));
    }

    private static void promise33() {
        about = "promise 33";
        is(checkedText("abc"), "o");
        is(checkedText("<a"), "e0");
        is(checkedText("<a>"), "o");
        is(checkedText("<s>"), "e0");
        is(checkedText("<s><</s>"), "o");
        is(checkedText("<s><a/s></a>"), "o");
        is(checkedText("<s>a<b/</b"), "e0");
        is(checkedText("</s>"), "o");
        is(checkedText("< s>"), "e0");
        is(checkedText("<a h=\">\">"), "o");
        is(checkedText("<a \">"), "e0");
        is(checkedText("<s><a/s>"), "e0");
        is(checkedText("<s></z>"), "o");
        is(checkedText("<ss>"), "e0");
        is(checkedText("<as>"), "o");
        checkAlike();
        checkBranches();
        checkRound();
        checkRoundOfFirst();
        checkCount();
        Weftpage x = new Weftpage();
        thrown(INDEX, () -> x.check(0));
        thrown(INDEX, () -> x.check(-1));
    }

    private static boolean areAlike(String one, String two) {
        Weftpage x = new Weftpage();
        return x.check(x.template(x.choice(x.number(1), piece(x, one), piece(x, two)))) != 'b';
    }

    private static void checkAlike() {
        String[][] alike = {{"", "<a>"}, {"<a ", "<ab "}, {"<a ", "<a&"}, {"<a ", "<a/"}, {"<a b=\"\"", "<a "}, {"<a h=\"\"", "<a "},
            {"<a=", "<a"}, {"</", "<s></"}, {"</", "</ "}, {"</a", "<s></ a"}, {"<s>", "<s>a"}, {"<s><", "<s>a<<"}, {"<s><a", "<s>"},
            {"<a b=\"", "<ac=\"x"}, {"<a h=\"", "<ah\""}, {"<z", "<zz"}, {"<", "< "}, {"<:", "<="}, {"<\"\"a", "<a"}, {"<a=\"<", "<a\"&"}};
        String[][] other = {{"<a", "<ab"}, {"<a", "<a "}, {"<a ", "<b "}, {"<a ", "</ "}, {"<s>", "<s><"}, {"<a b=\"", "<a h=\""},
            {"<a b=\"", "<b b=\""}, {"<a h=\"", "<b h=\""}, {"<", ""}, {"<z ", "<y "}, {"<s>", "<a>"}, {"<s>", "</s>"}, {"<\"", "<a\""}};
        for (String[] pair : alike) {
            is(areAlike(pair[0], pair[1]) + pair[0] + pair[1], "true" + pair[0] + pair[1]);
        }
        for (String[] pair : other) {
            is(areAlike(pair[0], pair[1]) + pair[0] + pair[1], "false" + pair[0] + pair[1]);
        }
    }

    private static void checkBranches() {
        Weftpage x = new Weftpage();
        int v = x.field(0);
        int hole = x.hole(v);
        int open = piece(x, "<a ");
        int openB = piece(x, "<b ");
        int openH = piece(x, "<ah");
        int shut = piece(x, ">");
        int text = piece(x, "z");
        int choice = x.choice(v, open, openB);
        is(checked(x, x.template(x.row(choice, shut))), "b" + choice);
        int alike = x.choice(v, openH, piece(x, "<h=h"));
        is(checked(x, x.template(x.row(alike, shut))), "b" + alike);
        int same = x.choice(v, open, piece(x, "<ac "));
        is(checked(x, x.template(x.row(same, shut))), "o");
        int alone = x.choice(v, open, -1);
        is(checked(x, x.template(x.row(alone, shut))), "b" + alone);
        Weftpage y = new Weftpage();
        int w = y.field(0);
        int quoted = y.choice(w, piece(y, "<a h=\""), piece(y, "<a b=\""));
        is(checked(y, y.template(y.row(quoted, piece(y, "\">")))), "b" + quoted);
        int names = y.choice(w, piece(y, "<a b=\""), piece(y, "<b b=\""));
        is(checked(y, y.template(y.row(names, piece(y, "\">")))), "b" + names);
        int guard = y.guard(piece(y, "<a"), piece(y, "<b"));
        is(checked(y, y.template(guard)), "b" + guard);
        int loop = y.loop(w, piece(y, "<a"), -1);
        is(checked(y, y.template(loop)), "l" + loop);
        int other = y.loop(w, piece(y, "a"), piece(y, "<a"));
        is(checked(y, y.template(other)), "l" + other);
        int fine = y.loop(w, piece(y, "<a>"), piece(y, "b"));
        is(checked(y, y.template(fine)), "o");
        Weftpage z = new Weftpage();
        int late = z.later(0, piece(z, "a"));
        is(checked(z, z.template(rows(z, piece(z, "<a b=\""), late, piece(z, "\">")))), "w" + late);
        int late2 = z.later(0, piece(z, "<a"));
        is(checked(z, z.template(z.row(late2, piece(z, ">")))), "w" + late2);
        int held = z.hole(z.field(0));
        int late3 = z.later(0, held);
        is(checked(z, z.template(z.row(piece(z, "<a"), late3))), "g" + held);
        is(checked(z, z.template(rows(z, piece(z, "<s><"), held))), "g" + held);
        is(checked(z, z.template(late)), "o");
        is(text + hole > 0, true);
    }

    private static void checkRound() {
        Weftpage x = new Weftpage();
        int block = x.block(0, x.piece());
        int base = x.template(block);
        int one = x.extend(base);
        int self = x.partial(one, -1, -1);
        x.override(one, 0, self);
        is(checked(x, one), "r" + self);
        int ofBase = x.partial(base, -1, -1);
        x.override(one, 0, x.row(ofBase, ofBase));
        is(checked(x, one), "o");
        x.override(one, 0, block);
        is(checked(x, one), "r" + block);
        is(checked(x, base), "o");
        int box = x.template(x.slot());
        int inner = x.partial(box, -1, x.piece());
        int twice = x.partial(box, -1, inner);
        is(checked(x, x.template(twice)), "r" + inner);
        is(checked(x, x.template(x.row(inner, inner))), "o");
        int two = x.extend(one);
        x.override(one, 0, x.row(x.up(), x.partial(one, -1, -1)));
        is(checked(x, two), "r" + block);
    }

    private static void checkRoundOfFirst() {
        Weftpage x = new Weftpage();
        x.template(x.slot());
        int inner = x.partial(0, -1, x.piece());
        is(checked(x, x.template(x.partial(0, -1, inner))), "r" + inner);
        is(checked(x, x.template(inner)), "o");
    }

    private static int doubled(Weftpage x, int node, int times) {
        int row = node;
        for (int i = 0; i < times; i++) {
            row = x.row(row, row);
        }
        return row;
    }

    /** 511 nodes, then as many more as are wanted, each by a row and a piece. */
    private static int many(Weftpage x, int nodes) {
        int p = x.piece();
        int row = doubled(x, p, 8);
        for (int i = 511; i < nodes; i += 2) {
            row = x.row(row, p);
        }
        return row;
    }

    private static void checkCount() {
        Weftpage x = new Weftpage();
        int r599 = many(x, 599);
        int one = x.template(x.slot());
        is(checked(x, x.template(r599)), "o");
        int s = x.choice(x.number(0), r599, -1);
        int t600 = x.template(s);
        is(checked(x, t600), "o");
        is(x.make(t600), 'o');
        int p = piece(x, "a");
        int t601 = x.template(x.row(r599, p));
        is(checked(x, t601), "m" + p);
        is(checked(x, one), "o");
        Weftpage y = new Weftpage();
        y.field(0);
        int half = many(y, 511);
        int second = y.piece();
        int c = y.choice(0, half, doubled(y, second, 7));
        is(checked(y, y.template(c)), "m" + second);
    }

    private static void promise34() {
        about = "promise 34";
        Weftpage x = new Weftpage();
        int p = piece(x, "<a");
        int base = x.template(p);
        int one = x.extend(base);
        int two = x.extend(one);
        is(checked(x, base), "e" + p);
        is(checked(x, two), "e" + p);
        int hole = x.hole(x.field(0));
        int t = x.template(x.row(p, hole));
        is(x.wrong(t), hole);
        int right = x.template(x.row(p, piece(x, ">")));
        thrown(ELEMENT, () -> x.wrong(right));
        thrown(INDEX, () -> x.wrong(9));
        thrown(INDEX, () -> x.wrong(-1));
    }

    private static void promise35() {
        about = "promise 35";
        Weftpage z = new Weftpage();
        is(z.around(z.template(piece(z, "a")), 0), 't');
        Weftpage x = new Weftpage();
        int v = x.field(0);
        int hole = x.hole(v);
        int open = piece(x, "<a h=\"");
        int mid = piece(x, "\" b=\"");
        int shut = piece(x, "\">");
        int script = piece(x, "<s>");
        int unscript = piece(x, "</s>");
        int late = piece(x, "z");
        int first = rows(x, open, hole, mid, x.slot(), shut, script);
        int all = rows(x, first, unscript, hole, late);
        int t = x.template(all);
        is("" + x.around(t, open) + x.around(t, hole) + x.around(t, mid) + x.around(t, shut), "tuuq");
        is("" + x.around(t, script) + x.around(t, unscript) + x.around(t, late) + x.around(t, all), "txtt");
        thrown(ELEMENT, () -> x.around(t, v));
        int unused = x.piece();
        thrown(ELEMENT, () -> x.around(t, unused));
        thrown(INDEX, () -> x.around(t, 99));
        thrown(INDEX, () -> x.around(t, -1));
        thrown(INDEX, () -> x.around(9, 0));
        int tag = piece(x, "<a");
        int inTag = x.hole(v);
        int u = x.template(rows(x, tag, inTag, late));
        is(x.around(u, inTag), 'g');
        thrown(ELEMENT, () -> x.around(u, late));
        int y = x.template(rows(x, piece(x, "<s><"), inTag));
        is(x.around(y, inTag), 'y');
        int t2 = x.template(rows(x, script, x.loop(v, late, hole), unscript));
        is(x.around(t2, late), 'x');
    }

    private static void promise36() {
        about = "promise 36";
        Weftpage x = new Weftpage();
        int f = x.field(0);
        int filtered = x.filter('d', x.filter('u', f, 0), 0);
        int hole = x.hole(filtered);
        int other = x.hole(x.field(1));
        int choice = x.choice(f, hole, other);
        int loop = x.loop(f, x.hole(x.item('k')), choice);
        int t = x.template(x.row(loop, hole));
        is(x.readers(t, 0), 3);
        is(x.readers(t, 1), 1);
        is(x.readers(t, 2), 0);
        int inner = x.template(x.row(x.hole(x.argument()), x.slot()));
        int outer = x.template(x.partial(inner, x.filter('l', x.argument(), 0), x.hole(x.argument())));
        is(x.readers(outer, 0), 0);
        int u = x.template(x.partial(outer, f, -1));
        is(x.readers(u, 0), 2);
        is(x.readers(u, 1), 0);
        int blocked = x.template(x.block(0, x.hole(x.argument())));
        is(x.readers(x.template(x.partial(blocked, f, -1)), 0), 1);
        int tag = piece(x, "<a");
        int wrongFirst = x.template(rows(x, hole, tag, x.hole(f), x.hole(f)));
        is(x.readers(wrongFirst, 0), 2);
        thrown(INDEX, () -> x.readers(t, 6));
        thrown(INDEX, () -> x.readers(t, -1));
        thrown(INDEX, () -> x.readers(8, 0));
        thrown(INDEX, () -> x.readers(-1, 0));
    }

    // Output

    private static void promise37() {
        about = "promise 37";
        Weftpage x = new Weftpage();
        int t = x.template(piece(x, "a"));
        int bad = x.template(x.hole(x.item('k')));
        int wrong = x.template(piece(x, "<"));
        is(x.make(t), 'o');
        is(text(x), "a");
        x.refresh();
        is(x.make(bad), 'f');
        thrown(STATE, () -> x.length());
        is(x.refresh(), 'f');
        is(x.make(t), 'o');
        thrown(UNSUPPORTED, () -> x.make(wrong));
        is(text(x), "a");
        is(x.refresh(), 'o');
        is(x.changes(), 0);
        thrown(INDEX, () -> x.make(8));
        thrown(INDEX, () -> x.make(-1));
        makeTooMany();
    }

    private static void makeTooMany() {
        Weftpage x = new Weftpage();
        x.setList(0);
        for (int i = 0; i < 8; i++) {
            x.addItem(0, i, 0);
        }
        int f = x.field(0);
        int p = piece(x, "a");
        int loop = x.loop(f, x.loop(f, x.loop(f, p, -1), -1), -1);
        is(x.make(x.template(x.guard(loop, p))), 'o');
        is(ends(x), ends("a".repeat(512)));
        int guard = x.guard(x.loop(f, loop, -1), p);
        is(made(x, guard), "fault m");
        int seven = rows(x, p, p, p, p, p, p, p);
        int all600 = x.row(loop, x.choice(x.number(1), seven, -1));
        is(x.make(x.template(all600)), 'o');
        is(ends(x), ends("a".repeat(519)));
        is(made(x, x.row(loop, x.row(seven, p))), "fault m");
        int failing = x.row(x.row(p, p), x.hole(x.argument()));
        int counted = x.guard(failing, p);
        is(x.make(x.template(rows(x, loop, counted))), 'o');
        is(ends(x), ends("a".repeat(513)));
        is(made(x, rows(x, loop, counted, counted)), "fault m");
    }

    private static void promise38() {
        about = "promise 38";
        Weftpage x = new Weftpage();
        is(x.comes(0), false);
        is(x.comes(0), true);
        is(x.comes(3), false);
        thrown(ARGUMENT, () -> x.comes(4));
        thrown(ARGUMENT, () -> x.comes(-1));
    }

    private static void promise39() {
        about = "promise 39";
        Weftpage x = new Weftpage();
        thrown(STATE, () -> x.refresh());
        int v = x.field(0);
        int h = x.hole(v);
        int q = rows(x, piece(x, "<a b=\""), h, piece(x, "\">"));
        int both = x.row(h, q);
        int t = x.template(both);
        x.setNumber(0, 1);
        is(x.make(t), 'o');
        is(patch(x), "");
        x.setNumber(0, 2);
        is(patch(x), "r" + h + " r" + h);
        is(text(x), "2<a b=\"2\">");
        x.setList(0);
        is(patch(x), "fault t");
        thrown(STATE, () -> x.length());
        is(patch(x), "fault t");
        x.setNumber(0, 2);
        is(patch(x), "r" + both);
        is(patch(x), "");
        refreshBranches();
        refreshItems();
        refreshOverrides();
    }

    private static void refreshBranches() {
        Weftpage x = new Weftpage();
        int f0 = x.field(0);
        int f1 = x.field(1);
        int a = piece(x, "a");
        int h = x.hole(f1);
        int choice = x.choice(f0, x.row(a, h), h);
        int plural = x.hole(x.filter('p', f0, 0));
        int guard = x.guard(plural, h);
        int loop = x.loop(x.field(2), a, h);
        int later = x.later(1, h);
        x.make(x.template(rows(x, choice, guard, loop, later)));
        x.setNumber(1, 1);
        is(patch(x), "r" + h + " r" + h + " r" + h);
        x.setNumber(0, 1);
        is(patch(x), "r" + choice + " r" + guard);
        x.setNumber(1, 2);
        x.comes(1);
        is(patch(x), "r" + h + " r" + h + " r" + later);
        x.setList(2);
        is(patch(x), "");
        x.addItem(2, 0, 0);
        x.setNumber(1, 3);
        is(patch(x), "r" + h + " r" + loop + " r" + h);
        for (int i = 0; i < 4; i++) {
            x.clear(2);
            is(patch(x), "r" + loop);
            x.clear(2);
            is(patch(x), "");
            x.setList(2);
            x.addItem(2, 0, 0);
            is(patch(x), "r" + loop);
            x.setNumber(0, i % 2);
            is(patch(x), i % 2 == 0 ? "r" + choice + " r" + plural : "");
            x.clear(0);
            is(patch(x), (i % 2 == 0 ? "" : "r" + choice + " ") + "r" + guard);
            x.setNumber(0, 1);
            is(patch(x), "r" + choice + " r" + guard);
        }
    }

    private static void order(Weftpage x, String keys) {
        x.setList(0);
        for (char key : keys.toCharArray()) {
            x.addItem(0, key - '0', 0);
        }
    }

    private static String moved(String before, String after) {
        Weftpage x = new Weftpage();
        x.template(x.loop(x.field(0), x.hole(x.item('k')), -1));
        order(x, before);
        x.make(0);
        order(x, after);
        String patch = patch(x).replace("3,", "");
        is(text(x), after);
        return patch;
    }

    private static void refreshItems() {
        is(moved("1234", "1234"), "");
        is(moved("1234", "2341"), "m1");
        is(moved("1234", "4123"), "m4");
        is(moved("1234", "4321"), "m3 m2 m1");
        is(moved("1234", "2143"), "m1 m3");
        is(moved("1234", "3412"), "m1 m2");
        is(moved("123", "45"), "d1 d2 d3 i4 i5");
        is(moved("1234", "5316"), "d2 d4 i5 m1 i6");
        is(moved("12345678", "87654321"), "m7 m6 m5 m4 m3 m2 m1");
        is(moved("12345", "52341"), "m5 m1");
        Weftpage x = new Weftpage();
        int number = x.hole(x.item('n'));
        int loop = x.loop(x.field(0), number, -1);
        x.template(loop);
        order(x, "123");
        x.make(0);
        x.moveItem(0, 2, 0);
        x.setItem(0, 0, 5);
        x.setItem(0, 2, 6);
        is(patch(x), "m" + loop + ",3 r" + number + " r" + number);
        x.takeItem(0, 2);
        x.addItem(0, 4, 4);
        is(patch(x), "d" + loop + ",2 i" + loop + ",4");
    }

    private static void refreshOverrides() {
        Weftpage x = new Weftpage();
        int a = piece(x, "a");
        int block = x.block(0, a);
        int root = x.row(block, a);
        int base = x.template(root);
        int one = x.extend(base);
        x.make(base);
        x.override(one, 3, a);
        is(patch(x), "r" + root);
        is(patch(x), "");
        x.override(one, 0, a);
        x.make(base);
        is(patch(x), "");
        x.make(one);
        x.override(one, 0, block);
        thrown(UNSUPPORTED, () -> x.refresh());
        is(text(x), "aa");
        x.override(one, 0, a);
        is(patch(x), "r" + root);
    }

    private static Weftpage shown() {
        Weftpage x = new Weftpage();
        x.setNumber(0, 42);
        x.make(x.template(x.row(piece(x, "ab"), x.row(x.piece(), hole(x, 0)))));
        return x;
    }

    private static void promise40() {
        about = "promise 40";
        Weftpage x = shown();
        is(x.length(), 4);
        x.setNumber(0, 7);
        is(x.length(), 4);
        x.refresh();
        is(x.length(), 3);
        x.make(x.template(x.hole(x.argument())));
        thrown(STATE, () -> x.length());
        thrown(STATE, () -> new Weftpage().length());
    }

    private static void promise41() {
        about = "promise 41";
        Weftpage x = shown();
        is("" + x.letterAt(0) + x.letterAt(1) + x.letterAt(2) + x.letterAt(3), "ab42");
        thrown(INDEX, () -> x.letterAt(4));
        thrown(INDEX, () -> x.letterAt(-1));
        thrown(STATE, () -> new Weftpage().letterAt(-1));
    }

    private static void promise42() {
        about = "promise 42";
        Weftpage x = shown();
        is(x.writerOf(0), 0);
        is(x.writerOf(1), 0);
        is(x.writerOf(2), 3);
        is(x.writerOf(3), 3);
        thrown(INDEX, () -> x.writerOf(4));
        thrown(INDEX, () -> x.writerOf(-1));
        thrown(STATE, () -> new Weftpage().writerOf(-1));
    }

    private static void promise43() {
        about = "promise 43";
        Weftpage x = shown();
        is(x.changes(), 0);
        x.setNumber(0, 1);
        x.refresh();
        is(x.changes(), 1);
        x.setList(0);
        x.refresh();
        is(x.changes(), 0);
        x.setNumber(0, 1);
        x.refresh();
        is(x.changes(), 1);
        x.make(0);
        is(x.changes(), 0);
    }

    private static void promise44() {
        about = "promise 44";
        Weftpage x = shown();
        thrown(INDEX, () -> x.changeAt(0));
        x.setNumber(0, 1);
        x.refresh();
        is(x.changeAt(0), 'r');
        thrown(INDEX, () -> x.changeAt(1));
        thrown(INDEX, () -> x.changeAt(-1));
    }

    private static void promise45() {
        about = "promise 45";
        Weftpage x = shown();
        thrown(INDEX, () -> x.changedNode(0));
        x.setNumber(0, 1);
        x.refresh();
        is(x.changedNode(0), 3);
        thrown(INDEX, () -> x.changedNode(1));
        thrown(INDEX, () -> x.changedNode(-1));
    }

    private static void promise46() {
        about = "promise 46";
        Weftpage x = new Weftpage();
        int hole = x.hole(x.item('i'));
        int loop = x.loop(x.field(0), hole, -1);
        x.template(loop);
        order(x, "12");
        x.make(0);
        order(x, "2");
        x.refresh();
        is(x.changes(), 2);
        is(x.changedKey(0), 1);
        is(x.changedNode(0), loop);
        is(x.changedNode(1), hole);
        thrown(UNSUPPORTED, () -> x.changedKey(1));
        thrown(INDEX, () -> x.changedKey(2));
        thrown(INDEX, () -> x.changedKey(-1));
    }

    private static void promise47() {
        about = "promise 47";
        Weftpage x = new Weftpage();
        thrown(ELEMENT, () -> x.fault());
        is(made(x, x.hole(x.item('k'))), "fault i");
        is(made(x, x.hole(x.argument())), "fault a");
        is(made(x, x.hole(x.filter('+', x.field(0), 1))), "fault t");
        x.setNumber(0, 1);
        is(x.refresh(), 'o');
        thrown(ELEMENT, () -> x.fault());
    }

    private static void promise48() {
        about = "promise 48";
        Weftpage x = shown();
        is(x.written(), 4L);
        x.refresh();
        is(x.written(), 8L);
        x.setList(0);
        x.refresh();
        is(x.written(), 8L);
        x.setNumber(0, 1);
        x.refresh();
        is(x.written(), 11L);
        x.make(0);
        is(x.written(), 14L);
    }

    private static void promise49() {
        about = "promise 49";
        Weftpage x = shown();
        is(x.holeShare(), 0.5f);
        x.setNumber(0, 7);
        x.refresh();
        is(x.holeShare(), 1.0f / 3.0f);
        is(made(x, x.piece()), "");
        is(x.holeShare(), 0.0f);
        thrown(STATE, () -> new Weftpage().holeShare());
    }

    private static void promise50() {
        about = "promise 50";
        Weftpage x = shown();
        thrown(ARITHMETIC, () -> x.meanChanges());
        x.refresh();
        is(x.meanChanges(), 0.0);
        x.setNumber(0, 1);
        x.refresh();
        x.refresh();
        is(x.meanChanges(), 1.0 / 3.0);
        x.setList(0);
        x.refresh();
        x.make(0);
        is(x.meanChanges(), 1.0 / 3.0);
    }

    private static void promise51() {
        about = "promise 51";
        is(new Weftpage().isSound(), true);
        Weftpage x = shown();
        is(x.isSound(), true);
        x.refresh();
        x.setNumber(0, 7);
        x.make(0);
        is(x.isSound(), true);
        setText(x, 0, "<\"&");
        x.refresh();
        is(x.isSound(), true);
        x.setList(0);
        x.refresh();
        is(x.isSound(), true);
        deepUps();
    }

    /** Overrides that call up from the end of long chains stand 600 nodes deep. */
    private static void deepUps() {
        Weftpage x = new Weftpage();
        int root = x.block(0, piece(x, "o"));
        x.template(root);
        int chain = x.up();
        int a = piece(x, "a");
        for (int i = 0; i < 40; i++) {
            chain = x.row(chain, a);
        }
        for (int i = 1; i < 8; i++) {
            x.extend(i - 1);
            x.override(i, 0, chain);
        }
        is(x.make(7), 'o');
        is(ends(x), ends("o" + "a".repeat(280)));
        for (int i = 0; i < 20; i++) {
            chain = x.row(chain, a);
        }
        for (int i = 1; i < 8; i++) {
            x.override(i, 0, chain);
        }
        is(x.check(7), 'm');
        is(x.make(4), 'o');
        is(ends(x), ends("o" + "a".repeat(240)));
        is(x.refresh(), 'o');
        is(x.isSound(), true);
    }

    static void all() {
        promise1(); promise2(); promise3(); promise4(); promise5(); promise6(); promise7(); promise8();
        promise9(); promise10(); promise11(); promise12(); promise13(); promise14(); promise15(); promise16();
        promise17(); promise18(); promise19(); promise20(); promise21(); promise22(); promise23(); promise24();
        promise25(); promise26(); promise27(); promise28(); promise29(); promise30(); promise31(); promise32();
        promise33(); promise34(); promise35(); promise36(); promise37(); promise38(); promise39(); promise40();
        promise41(); promise42(); promise43(); promise44(); promise45(); promise46(); promise47(); promise48();
        promise49(); promise50(); promise51();
    }

    public static void main(String[] args) {
        all();
        end("PromiseTests");
    }
}
