import java.util.ArrayList;
import java.util.List;

/** One test for each sentence of "Surroundings", "Writing" and "Checking" that names a boundary case. */
public final class SurroundingsTests extends Checks {
    private static final String LETTERS = "abcdefghijklmnopqrstuvwxyz <>/=\"&:#";

    // Surroundings, told as PlainModel tells them: the letter, the name and the last letter

    private static List<String> samples() {
        List<String> all = new ArrayList<>(List.of("t", "x", "y", "g  ", "q ", "g/ ", "gs "));
        for (char name : "ahsz/".toCharArray()) {
            all.add("q" + name);
            all.add("u" + name);
            for (char last : " ahsz".toCharArray()) {
                String g = "g" + name + last;
                if (!all.contains(g)) {
                    all.add(g);
                }
            }
        }
        return all;
    }

    /** A text that leads to the surroundings. */
    private static String leadingTo(String s) {
        char name = s.length() > 1 ? s.charAt(1) : ' ';
        String tag = name == ' ' ? "<" : "<" + name;
        switch (s.charAt(0)) {
            case 't':
                return "";
            case 'g':
                return name == ' ' || name == '/' && s.charAt(2) == ' ' ? tag : tag + s.charAt(2);
            case 'q':
                return tag + (name == ' ' || name == '/' ? "\"" : " \"");
            case 'u':
                return tag + "h\"";
            case 'x':
                return "<s>";
            default:
                return "<s><";
        }
    }

    private static boolean areAlike(String one, String two) {
        Weftpage x = new Weftpage();
        int node = x.choice(x.number(1), piece(x, one), piece(x, two));
        int t = x.template(node);
        return x.check(t) != 'b';
    }

    private static char letterBehind(String text) {
        Weftpage x = new Weftpage();
        int end = x.piece();
        int t = x.template(x.row(piece(x, text), end));
        return x.around(t, end);
    }

    /** All letters in all samples whose own letter is one of these. */
    private static void followAll(String in) {
        for (String s : samples()) {
            if (in.indexOf(s.charAt(0)) < 0) {
                continue;
            }
            is(letterBehind(leadingTo(s)), s.charAt(0));
            for (char c : LETTERS.toCharArray()) {
                String behind = PlainModel.behind(s, c);
                String text = leadingTo(s) + c;
                is(text + letterBehind(text), text + behind.charAt(0));
                is(text + areAlike(text, leadingTo(behind)), text + true);
            }
        }
    }

    private static void surroundings() {
        test("Surroundings are found letter by letter, 't' at first.", () -> {
            is(letterBehind(""), 't');
            is(letterBehind("<"), 'g');
            is(letterBehind("<a h=\"<a b=\"c=\""), 'q');
            is(letterBehind("<a h=\"<a b=\"c"), 'g');
        });
        test("In 't', '<' leads to 'g', with the name ' ' and the last letter ' '.", () -> followAll("t"));
        test("In 'g': a letter, '/', '=', '\"', '>', and all others.", () -> followAll("g"));
        test("In 'q' and 'u', '\"' leads back to 'g', with the last letter ' '.", () -> followAll("qu"));
        test("In 'x', '<' leads to 'y'.", () -> followAll("x"));
        test("In 'y', '/' leads to 'g' with the name '/', '<' stays, and all others lead to 'x'.", () -> followAll("y"));
        test("Two surroundings are alike if they have the same letter, name and last letter.", () -> {
            for (String one : samples()) {
                for (String two : samples()) {
                    is(one + two + areAlike(leadingTo(one), leadingTo(two)), one + two + one.equals(two));
                }
            }
        });
        test("The name is the first letter alone, 's' only if it is the whole beginning.", () -> {
            is(letterBehind("<s>"), 'x');
            is(letterBehind("<sa>"), 'x');
            is(letterBehind("<s a>"), 'x');
            is(letterBehind("< s>"), 'x');
            is(letterBehind("<\"\"s>"), 'x');
            is(letterBehind("<as>"), 't');
            is(letterBehind("<a s>"), 't');
            is(letterBehind("</s>"), 't');
            is(letterBehind("<>"), 't');
        });
        test("'\"' leads to 'u' if the last letter is 'h', which '=' leaves, and any other takes away.", () -> {
            is(letterBehind("<h\""), 'u');
            is(letterBehind("<h==\""), 'u');
            is(letterBehind("<ah=\""), 'u');
            is(letterBehind("<h \""), 'q');
            is(letterBehind("<h=:\""), 'q');
            is(letterBehind("<h/\""), 'q');
            is(letterBehind("<hi\""), 'q');
            is(letterBehind("<h\"\"\""), 'q');
            is(letterBehind("<\""), 'q');
        });
    }

    // Writing

    private static void writing() {
        test("Writing, in 't': \"&l\" for '<', \"&g\" for '>', \"&a\" for '&', all others as they are.", () -> {
            for (char c : LETTERS.toCharArray()) {
                is(inText("" + c), c == '<' ? "&l" : c == '>' ? "&g" : c == '&' ? "&a" : "" + c);
            }
            is(inText("<<>>&&"), "&l&l&g&g&a&a");
            is(inText(""), "");
            is(inText("&&&&&&&&&&&&&&&&&&&&&&&&").length(), 48);
        });
        test("Writing, in 'q': likewise, and \"&q\" for '\"'.", () -> {
            for (char c : LETTERS.toCharArray()) {
                is(inQuotes("" + c), c == '<' ? "&l" : c == '>' ? "&g" : c == '&' ? "&a" : c == '"' ? "&q" : "" + c);
            }
            is(inQuotes(""), "");
            is(inQuotes("\"\"\"\"\"\"\"\"\"\"\"\"\"\"\"\"\"\"\"\"\"\"\"\"").length(), 48);
        });
        test("Writing, in 'u': if it begins with \"j:\", it is \"#\".", () -> {
            is(inAddress("j:"), "#");
            is(inAddress("j:a<"), "#");
            is(inAddress("j:j:j:j:j:j:j:j:j:j:j:j:"), "#");
            is(inAddress("j"), "j");
            is(inAddress(":"), ":");
            is(inAddress("j "), "j%26");
            is(inAddress(" j:"), "%26j:");
            is(inAddress("aj:"), "aj:");
            is(inAddress(":j"), ":j");
            is(inAddress("jj:"), "jj:");
            is(inAddress("k:"), "k:");
            is(inText("j:"), "j:");
            is(inQuotes("j:"), "j:");
        });
        test("Writing, in 'u': a text does not begin with what the one ahead had.", () -> {
            Weftpage x = new Weftpage();
            setText(x, 0, "j:a");
            setText(x, 1, "j");
            setText(x, 2, "");
            x.setText(3);
            int all = piece(x, "<a h=\"");
            for (int field = 0; field < 4; field++) {
                all = rows(x, all, hole(x, field), piece(x, "\"h\""));
            }
            is(made(x, x.row(all, piece(x, "\">"))), "<a h=\"#\"h\"j\"h\"\"h\"\"h\"\">");
        });
        test("Writing, in 'u': '%' and the letter's place, as two digits, for each letter but these.", () -> {
            String[] coded = {" 26", "<27", ">28", "=30", "\"31", "&32", "#34"};
            String rest = LETTERS;
            for (String code : coded) {
                is(inAddress(code.substring(0, 1)), "%" + code.substring(1));
                rest = rest.replace(code.substring(0, 1), "");
            }
            is(rest.length(), 28);
            for (char c : rest.toCharArray()) {
                is(inAddress("" + c), "" + c);
            }
            is(inAddress(""), "");
            is(inAddress("########################").length(), 72);
        });
        test("Writing, in 'u': 'A' to 'Z', digits and '-' as they are.", () -> {
            Weftpage x = new Weftpage();
            int upper = x.hole(x.filter('u', x.field(0), 0));
            int t = x.template(rows(x, piece(x, "<a h=\""), upper, hole(x, 1), piece(x, "\">")));
            setText(x, 0, "az");
            x.setNumber(1, -90);
            is(made2(x, t), "<a h=\"AZ-90\">");
            setText(x, 0, "j:");
            x.setNumber(1, 1);
            is(made2(x, t), "<a h=\"J:1\">");
        });
        test("Writing, in 'x': between two '\"', a backslash and 'q' for '\"', a backslash and 'l' for '<'.", () -> {
            for (char c : LETTERS.toCharArray()) {
                is(inScript("" + c), "\"" + (c == '"' ? "\\q" : c == '<' ? "\\l" : "" + c) + "\"");
            }
            is(inScript(""), "\"\"");
            is(inScript("<<<<<<<<<<<<<<<<<<<<<<<<").length(), 50);
            Weftpage x = new Weftpage();
            x.setNumber(0, -1);
            is(made(x, rows(x, piece(x, "<s>"), hole(x, 0), hole(x, 1), piece(x, "</s>"))), "<s>\"-1\"\"\"</s>");
        });
        test("Elsewhere a hole is wrong: in 'g' and in 'y', and there alone.", () -> {
            String[] texts = {"", "<", "<a", "</", "<a b=\"", "<a h=\"", "<a h=\"\"", "<s>", "<s><", "<s><<", "<s></"};
            String due = "tggguqgxyyg";
            for (String text : texts) {
                Weftpage x = new Weftpage();
                int h = hole(x, 0);
                int t = x.template(x.row(piece(x, text), h));
                char in = letterBehind(text);
                is(due.indexOf(in) >= 0, true);
                is(text + checked(x, t).startsWith("g"), text + (in == 'g' || in == 'y'));
                if (in == 'g' || in == 'y') {
                    is(x.wrong(t), h);
                }
            }
        });
    }

    // Checking: what is gone through, and in which order

    private static int quoted(Weftpage x, int node) {
        return rows(x, piece(x, "<b c=\""), node, piece(x, "\">"));
    }

    private static void order() {
        test("A template is gone through from 't'.", () -> {
            Weftpage x = new Weftpage();
            int p = piece(x, "<a>");
            is(x.around(x.template(p), p), 't');
        });
        test("Choices with their first node ahead, loops and guards likewise.", () -> {
            for (int kind = 0; kind < 3; kind++) {
                Weftpage x = new Weftpage();
                int v = x.field(0);
                int h = x.hole(v);
                int quoted = quoted(x, h);
                int ahead = kind == 0 ? x.choice(v, quoted, h) : kind == 1 ? x.loop(v, quoted, h) : x.guard(quoted, h);
                int behind = kind == 0 ? x.choice(v, h, quoted) : kind == 1 ? x.loop(v, h, quoted) : x.guard(h, quoted);
                is(x.around(x.template(ahead), h), 'q');
                is(x.around(x.template(behind), h), 't');
            }
        });
        test("All nodes that it can reach: not those that are done by others, nor those of other templates.", () -> {
            Weftpage x = new Weftpage();
            int own = piece(x, "a");
            int block = x.block(0, own);
            int base = x.template(block);
            int over = piece(x, "b");
            int one = x.extend(base);
            x.override(one, 0, over);
            is(x.around(base, own), 't');
            thrown(ELEMENT, () -> x.around(base, over));
            is(x.around(one, over), 't');
            thrown(ELEMENT, () -> x.around(one, own));
            x.override(one, 0, x.row(over, x.up()));
            is(x.around(one, own), 't');
            int unslotted = x.template(x.partial(base, -1, over));
            thrown(ELEMENT, () -> x.around(unslotted, over));
            int box = x.template(x.slot());
            is(x.around(x.template(x.partial(box, -1, over)), over), 't');
        });
        test("The first one that is wrong counts: nothing behind it is gone through.", () -> {
            Weftpage x = new Weftpage();
            int h = hole(x, 0);
            int tag = piece(x, "<a");
            int late = hole(x, 1);
            int t = x.template(rows(x, tag, h, late));
            is(checked(x, t), "g" + h);
            thrown(ELEMENT, () -> x.around(t, late));
            is(x.readers(t, 0), 1);
            is(x.readers(t, 1), 0);
        });
        test("A wrong node is told as it ends: one in it ahead of it.", () -> {
            Weftpage x = new Weftpage();
            int v = x.field(0);
            int open = piece(x, "<a");
            int h = x.hole(v);
            int inner = x.choice(v, open, -1);
            int outer = x.choice(v, x.piece(), inner);
            is(checked(x, x.template(outer)), "b" + inner);
            int bad = x.row(open, h);
            is(checked(x, x.template(x.choice(v, open, bad))), "g" + h);
            is(checked(x, x.template(x.loop(v, open, bad))), "g" + h);
            is(checked(x, x.template(x.guard(open, bad))), "g" + h);
            int later = x.later(0, bad);
            is(checked(x, x.template(x.row(open, later))), "g" + h);
            int loop = x.loop(v, open, -1);
            is(checked(x, x.template(x.choice(v, loop, -1))), "l" + loop);
        });
    }

    private static void round() {
        test("'r' a partial of a template that is being gone through already: itself, and from within another.", () -> {
            Weftpage x = new Weftpage();
            int block = x.block(0, x.piece());
            int first = x.template(block);
            int one = x.extend(first);
            int other = x.template(x.partial(one, -1, -1));
            int self = x.partial(one, -1, -1);
            x.override(one, 0, self);
            is(checked(x, one), "r" + self);
            int round = x.partial(other, -1, -1);
            x.override(one, 0, round);
            is(checked(x, one), "r" + 2);
            is(checked(x, other), "r" + round);
        });
        test("'r': not counted those that one extends, nor one that ended.", () -> {
            Weftpage x = new Weftpage();
            int block = x.block(0, x.piece());
            int base = x.template(block);
            int ofBase = x.partial(base, -1, -1);
            int one = x.extend(base);
            x.override(one, 0, x.row(ofBase, ofBase));
            is(checked(x, one), "o");
            is(checked(x, x.template(x.row(ofBase, ofBase))), "o");
            int ofOne = x.partial(one, -1, -1);
            is(checked(x, x.template(rows(x, ofOne, ofBase, ofOne))), "o");
            int top = x.extend(one);
            x.override(top, 0, x.row(ofOne, x.up()));
            is(checked(x, top), "o");
            is(checked(x, x.template(x.partial(top, -1, -1))), "o");
        });
        test("'r': the one around a slot counted in its fill.", () -> {
            Weftpage x = new Weftpage();
            int box = x.template(x.slot());
            int inner = x.partial(box, -1, -1);
            int outer = x.partial(box, -1, inner);
            is(checked(x, x.template(outer)), "r" + inner);
            int other = x.template(x.slot());
            is(checked(x, x.template(x.partial(other, -1, inner))), "o");
        });
        test("'r' a block that is done by an override that is being gone through already.", () -> {
            Weftpage x = new Weftpage();
            int block = x.block(0, x.piece());
            int base = x.template(block);
            int one = x.extend(base);
            x.override(one, 0, block);
            is(checked(x, one), "r" + block);
            is(checked(x, base), "o");
            x.override(one, 0, x.up());
            is(checked(x, one), "o");
            int named = x.block(1, x.piece());
            x.override(one, 0, named);
            is(checked(x, one), "o");
            x.override(one, 1, block);
            is(checked(x, one), "r" + block);
            is(x.around(one, named), 't');
        });
        test("'r': those that ended are not counted, the next ones are.", () -> {
            Weftpage x = new Weftpage();
            int box = x.template(x.slot());
            int p = x.piece();
            int alone = x.partial(box, -1, p);
            int twice = x.partial(box, -1, alone);
            is(checked(x, x.template(rows(x, p, twice))), "r" + alone);
            is(checked(x, x.template(rows(x, alone, alone, p, twice))), "r" + alone);
            is(checked(x, x.template(rows(x, alone, p, alone, p, alone))), "o");
            int other = x.template(x.slot());
            int inside = x.partial(other, -1, alone);
            is(checked(x, x.template(rows(x, inside, inside, x.partial(other, -1, inside)))), "r" + inside);
        });
        test("'r' by an override of the eighth template, of each name.", () -> {
            for (int name = 0; name < 4; name++) {
                Weftpage x = new Weftpage();
                int block = x.block(name, x.piece());
                x.template(block);
                for (int i = 1; i < 8; i++) {
                    x.extend(i - 1);
                }
                x.override(7, name, x.row(x.up(), block));
                is(checked(x, 7), "r" + block);
                is(checked(x, 6), "o");
            }
        });
        test("'r' is of the same override alone: others in it are not counted.", () -> {
            for (int outer = 0; outer < 4; outer++) {
                for (int low = 1; low < 7; low++) {
                    Weftpage x = new Weftpage();
                    int[] blocks = new int[4];
                    int all = x.piece();
                    for (int name = 0; name < 4; name++) {
                        blocks[name] = x.block(name, x.piece());
                        all = x.row(all, blocks[name]);
                    }
                    x.template(all);
                    for (int i = 1; i < 8; i++) {
                        x.extend(i - 1);
                    }
                    int others = x.up();
                    for (int name = 0; name < 4; name++) {
                        if (name != outer) {
                            x.override(low, name, x.piece());
                            others = x.row(others, blocks[name]);
                        }
                    }
                    x.override(7, outer, others);
                    x.override(low, outer, x.piece());
                    is(checked(x, 7), "o");
                }
            }
        });
        test("'r' is told at once: nothing of the partial or of the block is gone through.", () -> {
            Weftpage x = new Weftpage();
            int v = x.field(0);
            int box = x.template(x.slot());
            int inner = x.partial(box, v, x.hole(v));
            int t = x.template(x.choice(x.field(1), x.partial(box, -1, inner), piece(x, "<a")));
            is(checked(x, t), "r" + inner);
            is(x.readers(t, 0), 0);
            is(x.readers(t, 1), 1);
        });
    }

    private static void unlike() {
        test("'g' a hole in 'g' or 'y', told at once.", () -> {
            Weftpage x = new Weftpage();
            int v = x.field(0);
            int h = x.hole(v);
            int choice = x.choice(v, x.row(piece(x, "<a"), h), -1);
            is(checked(x, x.template(choice)), "g" + h);
            is(checked(x, x.template(x.row(piece(x, "<s><"), h))), "g" + h);
        });
        test("'b' a choice: without another node as with an empty one.", () -> {
            Weftpage x = new Weftpage();
            int v = x.field(0);
            int open = piece(x, "<a");
            int shut = piece(x, "<a>");
            int alone = x.choice(v, open, -1);
            is(checked(x, x.template(alone)), "b" + alone);
            int empty = x.choice(v, open, x.piece());
            is(checked(x, x.template(empty)), "b" + empty);
            is(checked(x, x.template(x.choice(v, shut, -1))), "o");
            is(checked(x, x.template(x.choice(v, shut, x.piece()))), "o");
            int other = x.choice(v, shut, open);
            is(checked(x, x.template(other)), "b" + other);
        });
        test("'b' a guard whose nodes end in surroundings that are not alike.", () -> {
            Weftpage x = new Weftpage();
            int open = piece(x, "<a");
            int shut = piece(x, "<a>");
            int guard = x.guard(open, shut);
            is(checked(x, x.template(guard)), "b" + guard);
            is(checked(x, x.template(x.guard(shut, x.piece()))), "o");
            is(checked(x, x.template(x.row(x.guard(open, open), piece(x, ">")))), "o");
        });
        test("'l' a loop whose node does not end as it begins, or whose other node does not.", () -> {
            Weftpage x = new Weftpage();
            int v = x.field(0);
            int open = piece(x, "<a");
            int shut = piece(x, ">");
            int full = piece(x, "<a>");
            int body = x.loop(v, open, -1);
            is(checked(x, x.template(body)), "l" + body);
            int none = x.loop(v, full, open);
            is(checked(x, x.template(none)), "l" + none);
            int both = x.loop(v, open, open);
            is(checked(x, x.template(x.row(both, shut))), "l" + both);
            is(checked(x, x.template(x.loop(v, full, full))), "o");
            int inside = x.loop(v, piece(x, " c"), -1);
            is(checked(x, x.template(rows(x, open, inside, shut))), "l" + inside);
            int same = x.loop(v, piece(x, " a"), -1);
            is(checked(x, x.template(rows(x, open, same, shut))), "o");
        });
    }

    private static void latersAndEnds() {
        test("'w' a later part that does not begin and end in 't'.", () -> {
            Weftpage x = new Weftpage();
            int open = piece(x, "<a");
            int shut = piece(x, ">");
            int begins = x.later(0, shut);
            is(checked(x, x.template(x.row(open, begins))), "w" + begins);
            int ends = x.later(0, open);
            is(checked(x, x.template(x.row(ends, shut))), "w" + ends);
            int neither = x.later(0, x.piece());
            is(checked(x, x.template(rows(x, open, neither, shut))), "w" + neither);
            is(checked(x, x.template(x.later(0, x.row(open, shut)))), "o");
            int scripted = x.later(0, x.piece());
            is(checked(x, x.template(rows(x, piece(x, "<s>"), scripted, piece(x, "</s>")))), "w" + scripted);
        });
        test("'e', of the template, if it does not end in 't': in each of the others.", () -> {
            for (String text : new String[] {"<", "<a b=\"", "<a h=\"", "<s>", "<s><"}) {
                Weftpage x = new Weftpage();
                int p = piece(x, text);
                is(checked(x, x.template(p)), "e" + p);
            }
        });
        test("'e' is of the template alone: a partial may end elsewhere.", () -> {
            Weftpage x = new Weftpage();
            int opening = x.template(piece(x, "<a"));
            int shutting = x.template(piece(x, ">"));
            int both = x.row(x.partial(opening, -1, -1), x.partial(shutting, -1, -1));
            is(checked(x, x.template(both)), "o");
            is(checked(x, opening), "e0");
            is(checked(x, shutting), "o");
        });
        test("'e' comes behind all others.", () -> {
            Weftpage x = new Weftpage();
            int open = piece(x, "<a");
            int choice = x.choice(x.field(0), open, -1);
            is(checked(x, x.template(x.row(choice, open))), "b" + choice);
        });
        test("What comes behind a choice or a guard is gone through as behind its first node; behind a loop as it began.", () -> {
            Weftpage x = new Weftpage();
            int v = x.field(0);
            int open = piece(x, "<a h=\"");
            int h = x.hole(v);
            int shut = piece(x, "\">");
            int t = x.template(rows(x, x.choice(v, open, open), h, shut));
            is(checked(x, t), "o");
            is(x.around(t, h), 'u');
            int u = x.template(rows(x, x.guard(open, open), h, shut));
            is(x.around(u, h), 'u');
            int w = x.template(rows(x, open, x.loop(v, x.piece(), -1), h, shut));
            is(x.around(w, h), 'u');
        });
    }

    static void all() {
        surroundings();
        writing();
        order();
        round();
        unlike();
        latersAndEnds();
    }

    public static void main(String[] args) {
        all();
        end("SurroundingsTests");
    }
}
