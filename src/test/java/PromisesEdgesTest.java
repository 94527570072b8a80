/**
 * For each sentence of the promises, and for each case of those that say when a call is refused, a test of its own on
 * a new object. Fails too if the document has a sentence in its promises that is not tested here.
 */
public final class PromisesEdgesTest extends Calls {
    private static Document doc;

    public static void main(String[] args) throws Exception {
        doc = new Document();
        aNewObject();
        house();
        up();
        road();
        name();
        feed();
        end();
        fault();
        rulesTaken();
        rulesRefused();
        force();
        list();
        off();
        bars();
        harm();
        writeTaken();
        writeRefused();
        words();
        read();
        unlike();
        letter();
        why();
        minutes();
        mark();
        weight();
        decides();
        moved();
        lose();
        best();
        path();
        falsely();
        give();
        spread();
        swap();
        round();
        ends();
        hands();
        measure();
        plan();
        count();
        doc.duePromises();
        finish("edges of the promises");
    }

    /** Numbers that are none of n things. */
    private static int[] beyond(int n) {
        return new int[] {-1, n, n + 1, n + 31, LEAST, LEAST + 1, MOST};
    }

    private static void minutesTo(UnaskedLetters x, int minute) {
        while (x.count(0) < minute) {
            x.minutes(Math.min(200, minute - x.count(0)));
        }
    }

    private static UnaskedLetters crowd() {
        UnaskedLetters x = new UnaskedLetters();
        for (int i = 0; i < 12; i++) {
            x.house();
        }
        return x;
    }

    /** A letter that was marked bad, one that was marked good, and one without a mark; all written and marked in 3. */
    private static UnaskedLetters marked() {
        UnaskedLetters x = net();
        x.minutes(3);
        write(x, 0, 2, "pbuy gold");
        write(x, 0, 2, "phello");
        write(x, 0, 2, "pbuy hello unseen");
        x.mark(0, false);
        x.mark(1, true);
        return x;
    }

    // ---- promises 1 to 5: houses, roads, names

    private static void aNewObject() {
        doc.promise(1, "MINUTE 0, no HOUSES.");
        UnaskedLetters x = new UnaskedLetters();
        for (int what = 0; what <= 13; what++) {
            due("count " + what, x.count(what), 0);
        }
        due("hands", x.hands(0), 0);
        due("no house", x.up(0, false), false);
        due("the first house", x.house(), 0);
        crowd();
        due("nothing of another object", x.house(), 1);
    }

    private static void house() {
        doc.promise(2, "A HOUSE: its number.");
        UnaskedLetters x = new UnaskedLetters();
        for (int i = 0; i < 12; i++) {
            due("house", x.house(), i);
            due("houses", x.count(1), i + 1);
        }

        doc.promise(2, "NONE: there are twelve.");
        UnaskedLetters y = crowd();
        due("a thirteenth", y.house(), NONE);
        due("again", y.house(), NONE);
        due("still twelve", y.count(1), 12);
        due("no name at the thirteenth", y.name(12, false), NONE);
        due("a name at the twelfth", y.name(11, false), 0);
    }

    private static void up() {
        doc.promise(3, "It falls (false), comes up.");
        UnaskedLetters x = net();
        due("falls", x.up(1, false), true);
        write(x, 0, 2, "p");
        write(x, 0, 4, "p");
        x.minutes(1);
        due("down", x.letter(0, 0), 4);
        due("the other one is up", x.letter(1, 0), 1);
        due("comes up", x.up(1, true), true);
        x.minutes(10);
        due("up", x.letter(0, 0), 1);

        doc.promise(3, "False: no such one, it is so.", "no such one");
        UnaskedLetters y = net();
        for (int house : beyond(3)) {
            due("house " + house + " falls", y.up(house, false), false);
            due("house " + house + " comes up", y.up(house, true), false);
        }
        y.house();
        due("the fourth, then", y.up(3, false), true);

        doc.promise(3, "False: no such one, it is so.", "it is so");
        UnaskedLetters z = net();
        due("up at first", z.up(0, true), false);
        due("falls", z.up(0, false), true);
        due("is down", z.up(0, false), false);
        due("comes up, so it stayed down", z.up(0, true), true);
        due("is up", z.up(0, true), false);
    }

    private static void road() {
        doc.promise(4, "A ROAD.");
        UnaskedLetters x = crowd();
        for (int one = 0; one < 12; one++) {
            for (int other = 0; other < one; other++) {
                due("road " + one + " " + other, x.road(one, other), true);
            }
        }

        doc.promise(4, "False: no such HOUSES, alike, there is one.", "no such HOUSES");
        UnaskedLetters y = net();
        for (int house : beyond(3)) {
            due("road 0 " + house, y.road(0, house), false);
            due("road " + house + " 1", y.road(house, 1), false);
        }
        due("nothing of it stays", y.road(0, 1), true);

        doc.promise(4, "False: no such HOUSES, alike, there is one.", "alike");
        UnaskedLetters z = crowd();
        for (int house = 0; house < 12; house++) {
            due("road " + house + " " + house, z.road(house, house), false);
        }

        doc.promise(4, "False: no such HOUSES, alike, there is one.", "there is one");
        UnaskedLetters one = crowd();
        one.road(0, 11);
        due("again", one.road(0, 11), false);
        due("the other way", one.road(11, 0), false);
        due("another one", one.road(0, 10), true);
        due("and another one", one.road(11, 10), true);
    }

    private static void name() {
        doc.promise(5, "A NAME: its number.");
        UnaskedLetters x = net();
        due("name", x.name(2, true), 6);
        due("name", x.name(0, false), 7);
        due("names", x.count(2), 8);

        doc.promise(5, "NONE: no such HOUSE, there are 40.", "no such HOUSE");
        UnaskedLetters y = net();
        for (int house : beyond(3)) {
            due("name at " + house, y.name(house, false), NONE);
        }
        due("names", y.count(2), 6);
        due("the next one", y.name(0, false), 6);

        doc.promise(5, "NONE: no such HOUSE, there are 40.", "there are 40");
        UnaskedLetters z = net();
        for (int i = 6; i < 40; i++) {
            due("name", z.name(i % 3, false), i);
        }
        due("name 41", z.name(0, false), NONE);
        due("names", z.count(2), 40);
        due("the last one may write", write(z, 39, 0, "p"), 0);
        due("to name 40", write(z, 39, 40, "p"), NONE);
    }

    // ---- promises 6 to 8: the tape

    private static void feed() {
        doc.promise(6, "Twenty bytes more come to the TAPE (of each number the highest first; bytes of 0 are left out): how many it has.",
            "twenty bytes more");
        UnaskedLetters x = net();
        due("twenty", x.feed(0x70616263, 0x64656667, 0x68696a6b, 0x6c206e6f, 0x70717273), 20);
        due("twenty more", x.feed(0x20616263, 0x64656667, 0x68696a6b, 0x6c206e6f, 0x70717273), 40);
        x.write(0, 1, false, 0);
        dueWords(x, 0, 0, "abcdefghijkl", "nopqrs", "abcdefghijkl", "nopqrs");

        doc.promise(6, "Twenty bytes more come to the TAPE (of each number the highest first; bytes of 0 are left out): how many it has.",
            "bytes of 0");
        for (int i = 0; i < 20; i++) {
            UnaskedLetters y = new UnaskedLetters();
            int[] row = new int[5];
            row[i / 4] = 255 << 24 - i % 4 * 8;
            due("a byte in place " + i, y.feed(row[0], row[1], row[2], row[3], row[4]), 1);
        }
        UnaskedLetters z = net();
        due("none", z.feed(0, 0, 0, 0, 0), 0);
        due("apart", z.feed(0x00700000, 0x61000062, 0, 0x00000063, 0x64006500), 6);
        z.write(0, 1, false, 0);
        dueWords(z, 0, 0, "abcde");

        doc.promise(6, "NONE: more than 160.");
        UnaskedLetters full = net();
        tape(full, "p" + times("a", 158));
        due("two more", full.feed(0x62000000, 0, 0, 0, 0x00000063), NONE);
        due("all twenty more", full.feed(-1, -1, -1, -1, -1), NONE);
        due("it has what it had", full.count(13), 159);
        due("one more", full.feed(0, 0x00000062, 0, 0, 0), 160);
        due("one more than 160", full.feed(LEAST, 0, 0, 0, 0), NONE);
        due("none more", full.feed(0, 0, 0, 0, 0), 160);
        for (int i = 0; i < 60; i++) {
            int[] row = new int[5];
            row[i / 12] = new int[] {1, 128, 255}[i % 3] << 24 - i / 3 % 4 * 8;
            due("one more in number " + i / 12, full.feed(row[0], row[1], row[2], row[3], row[4]), NONE);
        }
        due("no part of what was refused", full.fault(0), NONE);
        full.end(157);
        due("four more than 157", full.feed(0, 0, 0x61626364, 0, 0), NONE);
        due("three more than 157", full.feed(0, 0, 0x61626300, 0, 0), 160);
        full.end(13);
        due("bytes again", full.feed(-1, -1, -1, -1, -1), 33);
    }

    private static void end() {
        doc.promise(7, "The TAPE has its first n bytes alone.");
        UnaskedLetters x = net();
        tape(x, "pabc");
        due("all", x.end(4), true);
        due("four", x.count(13), 4);
        due("two", x.end(2), true);
        due("two", x.count(13), 2);
        x.write(0, 1, false, 0);
        dueWords(x, 0, 0, "a");
        due("none of none", x.end(0), true);
        tape(x, "p");
        due("none of one", x.end(0), true);
        due("none", x.count(13), 0);

        doc.promise(7, "False: n.");
        UnaskedLetters y = new UnaskedLetters();
        due("one of none", y.end(1), false);
        tape(y, "pab");
        for (int n : new int[] {-1, -2, 4, 160, 161, LEAST, MOST}) {
            due("end " + n, y.end(n), false);
            due("it has what it had", y.count(13), 3);
        }
    }

    private static void fault() {
        doc.promise(8, "The FAULT of the TAPE as TEXT of a LETTER (0), as RULES (1).");
        UnaskedLetters x = new UnaskedLetters();
        tape(x, "pa:");
        due("as a letter", x.fault(0), 2);
        due("as rules", x.fault(1), 0);
        tape(x, "t:1;p");
        due("as a letter", x.fault(0), 0);
        due("as rules", x.fault(1), 4);
        due("the tape stays", x.count(13), 5);

        doc.promise(8, "NONE: none.");
        due("a letter", fault("p", 0), NONE);
        due("rules", fault("x:0", 1), NONE);

        doc.promise(8, "-2: no such sort.");
        for (int sort : beyond(2)) {
            due("sort " + sort, fault("p", sort), -2);
            due("sort " + sort + " of nothing", fault("", sort), -2);
        }
    }

    // ---- promises 9 to 14: rules and lists

    private static void rulesTaken() {
        doc.promise(9, "The TAPE (empty then; if refused it stays) are RULES of a HOUSE (list false) or of a LIST from a MINUTE on: their number.",
            "empty then, their number");
        UnaskedLetters x = net();
        x.list();
        due("of a house", rules(x, 2, false, 0, "t:1"), 0);
        due("empty then", x.count(13), 0);
        due("of a list", rules(x, 0, true, 0, "x:1"), 1);
        due("of a house", rules(x, 0, false, 0, "t:1"), 2);
        due("house 2", x.force(2, false, 0, 0), 0);
        due("list 0", x.force(0, true, 0, 0), 1);
        due("house 0", x.force(0, false, 0, 0), 2);

        doc.promise(9, "The TAPE (empty then; if refused it stays) are RULES of a HOUSE (list false) or of a LIST from a MINUTE on: their number.",
            "if refused it stays");
        UnaskedLetters y = net();
        tape(y, "t:1");
        y.rules(3, false, 0);
        y.rules(0, true, 0);
        y.rules(0, false, -1);
        y.rules(0, false, 2001);
        due("it stays", y.count(13), 3);
        due("nothing was told", y.count(8), 0);
        due("then it is taken", y.rules(0, false, 0), 0);
    }

    private static void rulesRefused() {
        String sentence = "NONE: a FAULT, no such ones, MINUTE, there are 20.";
        doc.promise(9, sentence, "a FAULT");
        for (String text : new String[] {"", "p", "t", "t:", "t:1;", "t:12345", "t:1)", times("t:1;", 40)}) {
            UnaskedLetters x = net();
            due("'" + text + "'", rules(x, 0, false, 0, text), NONE);
            due("it stays", x.count(13), text.length());
        }

        doc.promise(9, sentence, "no such ones");
        UnaskedLetters y = net();
        y.list();
        for (int of : beyond(3)) {
            due("house " + of, rules(y, of, false, 0, "t:1"), NONE);
        }
        for (int of : beyond(1)) {
            due("list " + of, rules(y, of, true, 0, "x:1"), NONE);
        }
        due("none told", y.count(8), 0);

        doc.promise(9, sentence, "MINUTE");
        UnaskedLetters z = net();
        z.minutes(7);
        for (int from : new int[] {6, 0, -1, 2001, 2002, LEAST, MOST}) {
            due("from " + from, rules(z, 0, false, from, "t:1"), NONE);
        }
        due("from now", rules(z, 0, false, 7, "t:1"), 0);
        due("from the last minute", rules(z, 0, false, 2000, "t:1"), 1);
        minutesTo(z, 2000);
        due("from 1999", rules(z, 0, false, 1999, "t:1"), NONE);
        due("from 2000 in 2000", rules(z, 0, false, 2000, "t:1"), 2);

        doc.promise(9, sentence, "there are 20");
        UnaskedLetters most = net();
        most.list();
        for (int i = 0; i < 20; i++) {
            due("rules", rules(most, 0, i % 2 == 0, 0, "t:1"), i);
        }
        due("of a house", rules(most, 1, false, 0, "t:1"), NONE);
        due("it stays", most.count(13), 3);
        due("of a list", most.rules(0, true, 0), NONE);
        due("twenty", most.count(8), 20);
        due("none of them", most.force(1, false, 0, 0), NONE);
        due("the last ones", most.force(0, false, 0, 0), 19);
    }

    private static void force() {
        doc.promise(10, "The RULES IN FORCE.");
        UnaskedLetters x = net();
        rules(x, 0, false, 0, "t:1");
        rules(x, 0, false, 2000, "t:0");
        due("in 0", x.force(0, false, 0, 0), 0);
        due("in 1999", x.force(0, false, 1999, 0), 0);
        due("in 2000", x.force(0, false, 2000, 0), 1);

        String sentence = "NONE: none, no such ones, MINUTE (0 .. 2,000), q.";
        doc.promise(10, sentence, "none");
        UnaskedLetters none = net();
        none.list();
        due("no rules of a house", none.force(0, false, 2000, 0), NONE);
        due("no rules of a list", none.force(0, true, 2000, 0), NONE);
        rules(none, 1, false, 5, "t:1");
        due("of another house", none.force(0, false, 5, 0), NONE);
        due("not yet", none.force(1, false, 4, 0), NONE);
        due("then", none.force(1, false, 5, 0), 0);

        doc.promise(10, sentence, "no such ones");
        UnaskedLetters y = net();
        y.list();
        rules(y, 0, false, 0, "t:1");
        rules(y, 0, true, 0, "x:1");
        for (int of : beyond(3)) {
            due("house " + of, y.force(of, false, 0, 0), NONE);
        }
        for (int of : beyond(1)) {
            due("list " + of, y.force(of, true, 0, 0), NONE);
        }

        doc.promise(10, sentence, "MINUTE (0 .. 2,000)");
        UnaskedLetters z = net();
        rules(z, 0, false, 0, "t:1");
        for (int minute : new int[] {-1, 2001, LEAST, MOST}) {
            due("in " + minute, z.force(0, false, minute, 0), NONE);
        }
        due("in 0", z.force(0, false, 0, 0), 0);
        due("in 2000", z.force(0, false, 2000, 0), 0);

        doc.promise(10, sentence, "q");
        UnaskedLetters q = net();
        rules(q, 0, false, 0, "t:1");
        q.minutes(2);
        for (int known : beyond(3)) {
            due("known in " + known, q.force(0, false, 0, known), NONE);
        }
        due("known in 0", q.force(0, false, 0, 0), 0);
        due("known now", q.force(0, false, 0, 2), 0);
    }

    private static void list() {
        doc.promise(11, "A LIST: its number.");
        UnaskedLetters x = new UnaskedLetters();
        for (int i = 0; i < 4; i++) {
            due("list", x.list(), i);
            due("lists", x.count(9), i + 1);
        }

        doc.promise(11, "NONE: there are four.");
        UnaskedLetters y = net();
        for (int i = 0; i < 4; i++) {
            y.list();
        }
        due("a fifth", y.list(), NONE);
        due("four", y.count(9), 4);
        due("rules of a fifth", rules(y, 4, true, 0, "x:1"), NONE);
        due("rules of the fourth", rules(y, 3, true, 0, "x:1"), 0);
    }

    private static void off() {
        doc.promise(12, "A HOUSE is asked off a LIST.");
        UnaskedLetters x = net();
        x.list();
        rules(x, 0, true, 0, "x:o=9999?1");
        due("barred", x.bars(0, 1, 0, 0), 1);
        due("off", x.off(0, 1), true);
        due("not barred", x.bars(0, 1, 0, 0), 0);

        doc.promise(12, "False: no such ones; there were 100.", "no such ones");
        UnaskedLetters y = net();
        due("no list", y.off(0, 0), false);
        y.list();
        for (int list : beyond(1)) {
            due("list " + list, y.off(list, 0), false);
        }
        for (int house : beyond(3)) {
            due("house " + house, y.off(0, house), false);
        }

        doc.promise(12, "False: no such ones; there were 100.", "there were 100");
        UnaskedLetters z = net();
        z.list();
        z.list();
        rules(z, 0, true, 0, "x:o=9999?1");
        z.off(2, 0);
        for (int i = 0; i < 100; i++) {
            due("off", z.off(i % 2, 1 + i % 2), true);
        }
        due("off a list", z.off(0, 0), false);
        due("off the other one", z.off(1, 0), false);
        due("nothing of it stays", z.bars(0, 0, 0, 0), 1);
        due("what was told does", z.bars(0, 1, 0, 0), 0);
    }

    private static void bars() {
        doc.promise(13, "Whether a LIST bars a HOUSE (1, 0).");
        UnaskedLetters x = net();
        x.list();
        rules(x, 0, true, 0, "x:h=1?7");
        due("no", x.bars(0, 0, 0, 0), 0);
        due("yes", x.bars(0, 1, 0, 0), 1);

        String sentence = "NONE: no such ones, MINUTE (0 .. NOW), q.";
        doc.promise(13, sentence, "no such ones");
        UnaskedLetters y = net();
        due("no list", y.bars(0, 0, 0, 0), NONE);
        y.list();
        rules(y, 0, true, 0, "x:1");
        for (int list : beyond(1)) {
            due("list " + list, y.bars(list, 0, 0, 0), NONE);
        }
        for (int house : beyond(3)) {
            due("house " + house, y.bars(0, house, 0, 0), NONE);
        }

        doc.promise(13, sentence, "MINUTE (0 .. NOW)");
        UnaskedLetters z = net();
        z.list();
        rules(z, 0, true, 0, "x:1");
        z.minutes(4);
        for (int minute : beyond(5)) {
            due("in " + minute, z.bars(0, 0, minute, 4), NONE);
        }
        due("in 0", z.bars(0, 0, 0, 4), 1);
        due("now", z.bars(0, 0, 4, 4), 1);

        doc.promise(13, sentence, "q");
        UnaskedLetters q = net();
        q.list();
        rules(q, 0, true, 0, "x:1");
        q.minutes(4);
        for (int known : beyond(5)) {
            due("known in " + known, q.bars(0, 0, 4, known), NONE);
        }
        due("known in 0", q.bars(0, 0, 4, 0), 1);
    }

    private static void harm() {
        doc.promise(14, "HARM of a LIST NOW, as known NOW.");
        UnaskedLetters x = net();
        x.list();
        rules(x, 0, true, 1, "x:1");
        write(x, 0, 2, "p");
        x.mark(0, true);
        due("the rules are not in force yet", x.harm(0), 0);
        x.minutes(1);
        due("now", x.harm(0), 1);
        x.mark(0, false);
        due("as known now", x.harm(0), 0);

        doc.promise(14, "NONE: no such one.");
        UnaskedLetters y = net();
        due("no list", y.harm(0), NONE);
        y.list();
        for (int list : beyond(1)) {
            due("list " + list, y.harm(list), NONE);
        }
        due("list 0", y.harm(0), 0);
    }

    // ---- promises 15 to 21: letters

    private static void writeTaken() {
        doc.promise(15, "A LETTER of the TAPE (empty then; if refused it stays): its number.", "empty then, its number");
        UnaskedLetters x = net();
        due("letter", write(x, 0, 1, "pabc"), 0);
        due("empty then", x.count(13), 0);
        due("nothing to write", x.write(0, 1, false, 0), NONE);
        due("letter", write(x, 5, 0, "p"), 1);
        due("letters", x.count(3), 2);

        doc.promise(15, "A LETTER of the TAPE (empty then; if refused it stays): its number.", "if refused it stays");
        UnaskedLetters y = net();
        tape(y, "pabc");
        y.write(0, 0, false, 0);
        y.write(6, 0, false, 0);
        y.write(0, 6, false, 0);
        y.write(0, 1, false, 21);
        y.write(0, 1, false, -1);
        due("it stays", y.count(13), 4);
        due("no letter", y.count(3), 0);
        due("then it is written", y.write(0, 1, false, 0), 0);
        dueWords(y, 0, 0, "abc");
    }

    private static void writeRefused() {
        String sentence = "NONE: a FAULT, no such NAMES, alike, STAMP, there are 120.";
        doc.promise(15, sentence, "a FAULT");
        for (String text : new String[] {"", "a", "pa;", "m{p", "q=7", "p" + (char) 255, times("m{", 6) + "p"}) {
            UnaskedLetters x = net();
            due("'" + text + "'", write(x, 0, 1, text), NONE);
            due("it stays", x.count(13), text.length());
        }

        doc.promise(15, sentence, "no such NAMES");
        UnaskedLetters y = net();
        for (int name : beyond(6)) {
            due("from " + name, write(y, name, 0, "p"), NONE);
            due("to " + name, write(y, 0, name, "p"), NONE);
        }

        doc.promise(15, sentence, "alike");
        UnaskedLetters alike = net();
        for (int name = 0; name < 6; name++) {
            due("alike " + name, write(alike, name, name, "p"), NONE);
        }
        due("two names of one house", write(alike, 0, 1, "p"), 0);

        doc.promise(15, sentence, "STAMP");
        UnaskedLetters z = net();
        tape(z, "p");
        for (int stamp : beyond(21)) {
            due("stamp " + stamp, z.write(0, 1, true, stamp), NONE);
        }
        due("stamp 20", z.write(0, 1, true, 20), 0);
        tape(z, "p");
        due("stamp 0", z.write(0, 1, true, 0), 1);

        doc.promise(15, sentence, "there are 120");
        UnaskedLetters most = net();
        for (int i = 0; i < 120; i++) {
            due("letter", write(most, i % 6, (i + 1) % 6, "p"), i);
        }
        due("letter 121", write(most, 0, 1, "p"), NONE);
        due("it stays", most.count(13), 1);
        due("letters", most.count(3), 120);
        due("the last one", most.letter(119, 3), 0);
        due("no letter 120", most.letter(120, 3), NONE);
    }

    private static void words() {
        doc.promise(16, "How many WORDS a reader (0 PLAIN, 1 FULL) sees in a LETTER.");
        UnaskedLetters x = net();
        write(x, 0, 1, "qa=20 =2f b");
        write(x, 0, 1, "p  ");
        due("plain", x.words(0, 0), 4);
        due("full", x.words(0, 1), 2);
        due("plain sees none", x.words(1, 0), 0);
        due("full sees none", x.words(1, 1), 0);

        doc.promise(16, "NONE: no such ones.", "no such LETTER");
        UnaskedLetters y = net();
        due("none at first", y.words(0, 0), NONE);
        write(y, 0, 1, "p");
        for (int letter : beyond(1)) {
            due("letter " + letter, y.words(letter, 0), NONE);
        }

        doc.promise(16, "NONE: no such ones.", "no such reader");
        UnaskedLetters z = net();
        write(z, 0, 1, "p");
        for (int reader : beyond(2)) {
            due("reader " + reader, z.words(0, reader), NONE);
        }
    }

    private static void read() {
        doc.promise(17, "Byte k of WORD i that a reader sees.");
        UnaskedLetters x = net();
        write(x, 0, 1, "pa0 z123456789xyz");
        due("0 0", x.read(0, 0, 0, 0), 'a');
        due("0 1 plain", x.read(0, 0, 0, 1), '0');
        due("0 1 full", x.read(0, 1, 0, 1), 'o');
        due("1 0", x.read(0, 0, 1, 0), 'z');
        due("1 11", x.read(0, 0, 1, 11), 'y');
        for (int i = 1; i < 10; i++) {
            due("1 " + i, x.read(0, 0, 1, i), '0' + i);
        }

        String sentence = "NONE without.";
        doc.promise(17, sentence, "letter");
        for (int letter : beyond(1)) {
            due("letter " + letter, x.read(letter, 0, 0, 0), NONE);
        }
        doc.promise(17, sentence, "reader");
        for (int reader : beyond(2)) {
            due("reader " + reader, x.read(0, reader, 0, 0), NONE);
        }
        doc.promise(17, sentence, "WORD");
        for (int reader = 0; reader < 2; reader++) {
            for (int i : beyond(2)) {
                due("word " + i, x.read(0, reader, i, 0), NONE);
            }
        }
        doc.promise(17, sentence, "byte");
        for (int reader = 0; reader < 2; reader++) {
            for (int k : beyond(2)) {
                due("byte " + k, x.read(0, reader, 0, k), NONE);
            }
            due("byte 12", x.read(0, reader, 1, 12), NONE);
        }
    }

    private static void unlike() {
        doc.promise(18, "UNLIKE.");
        UnaskedLetters x = net();
        write(x, 0, 1, "p0");
        write(x, 0, 1, "pa b c d 1");
        due("the first one", x.unlike(0), 0);
        due("the fifth one", x.unlike(1), 4);

        doc.promise(18, "NONE: they see alike, no such LETTER.", "they see alike");
        UnaskedLetters y = net();
        write(y, 0, 1, "p");
        write(y, 0, 1, "qabc 2 4 6 7 8 9");
        write(y, 0, 1, "pabcdefghijkl013");
        due("no words", y.unlike(0), NONE);
        due("no figures that are folded", y.unlike(1), NONE);
        due("figures in what is left away", y.unlike(2), NONE);

        doc.promise(18, "NONE: they see alike, no such LETTER.", "no such LETTER");
        UnaskedLetters z = net();
        write(z, 0, 1, "p0");
        for (int letter : beyond(1)) {
            due("letter " + letter, z.unlike(letter), NONE);
        }
    }

    private static void letter() {
        doc.promise(19, "Of a LETTER: 0 what it is (0 written .. 5), 1 tries, 2 when it is due (NONE: not any more), 3 the MINUTE in which"
            + " it was written, 4 from, 5 to.", "each");
        UnaskedLetters x = net();
        x.minutes(3);
        write(x, 4, 1, "p");
        int[] first = {0, 0, 4, 3, 4, 1};
        for (int what = 0; what <= 5; what++) {
            due("written " + what, x.letter(0, what), first[what]);
        }
        x.up(0, false);
        x.minutes(1);
        int[] second = {4, 1, 14, 3, 4, 1};
        for (int what = 0; what <= 5; what++) {
            due("delayed " + what, x.letter(0, what), second[what]);
        }

        doc.promise(19, "2 when it is due (NONE: not any more)");
        UnaskedLetters y = net();
        rules(y, 1, false, 0, "t:k=1?1;b:k=2?1;d:k=3?1");
        y.up(0, false);
        for (int stamp = 0; stamp < 4; stamp++) {
            tape(y, "p");
            y.write(0, 2, false, stamp);
        }
        write(y, 2, 0, "p");
        y.minutes(80);
        int[] states = {1, 2, 3, 3, 5};
        for (int i = 0; i < 5; i++) {
            due("state of " + i, y.letter(i, 0), states[i]);
            due("due of " + i, y.letter(i, 2), NONE);
        }

        doc.promise(19, "NONE for others.", "what");
        UnaskedLetters z = net();
        write(z, 0, 1, "p");
        for (int what : beyond(6)) {
            due("what " + what, z.letter(0, what), NONE);
        }
        doc.promise(19, "NONE for others.", "LETTER");
        for (int letter : beyond(1)) {
            due("letter " + letter, z.letter(letter, 0), NONE);
            due("letter " + letter, z.letter(letter, 1), NONE);
        }
    }

    private static void why() {
        doc.promise(20, "WHY of the latest MINUTE in which its HOUSE looked at a LETTER: the CLAUSE by which it was thrown, sent back, delayed.",
            "the latest MINUTE");
        UnaskedLetters x = net();
        rules(x, 1, false, 0, "d:n=0?1;d:n=1?1;d:n=2?1;b:n=4?1;t:n=3?0;d:n=3?2");
        write(x, 0, 2, "p");
        int[] whys = {0, 1, 2, 5, 5, 3, 3};
        for (int i = 0; i < whys.length; i++) {
            x.minutes(1);
            due("in " + (i + 1), x.why(0), whys[i]);
        }
        due("sent back", x.letter(0, 0), 3);
        write(x, 0, 2, "p");
        x.minutes(1);
        due("delayed", x.why(1), 0);
        x.up(1, false);
        x.minutes(1);
        due("a house that is down doesn't look", x.why(1), 0);
        due("but it was tried", x.letter(1, 1), 2);

        doc.promise(20, "WHY of the latest MINUTE in which its HOUSE looked at a LETTER: the CLAUSE by which it was thrown, sent back, delayed.",
            "each of the three");
        UnaskedLetters y = net();
        rules(y, 1, false, 0, "x:1;t:k=0?1;x:1;b:k=1?1;x:1;d:k=2?1");
        for (int stamp = 0; stamp < 3; stamp++) {
            tape(y, "p");
            y.write(0, 2, false, stamp);
        }
        y.minutes(1);
        due("thrown", y.why(0), 1);
        due("sent back", y.why(1), 3);
        due("delayed", y.why(2), 5);

        doc.promise(20, "NONE: by none, no such LETTER.", "by none");
        UnaskedLetters z = net();
        rules(z, 1, false, 0, "d:n=0?1;t:0;b:0;d:0");
        write(z, 0, 2, "p");
        write(z, 0, 4, "p");
        due("not looked at yet", z.why(0), NONE);
        z.minutes(1);
        due("delayed", z.why(0), 0);
        due("no rules", z.why(1), NONE);
        z.minutes(1);
        due("then in the box", z.letter(0, 0), 1);
        due("by none", z.why(0), NONE);

        doc.promise(20, "NONE: by none, no such LETTER.", "no such LETTER");
        for (int letter : beyond(2)) {
            due("letter " + letter, y.why(letter < 0 || letter > 30 ? letter : letter + 1), NONE);
        }
    }

    private static void minutes() {
        doc.promise(21, "n MINUTES (0 .. 200): NOW.");
        UnaskedLetters x = net();
        due("0", x.minutes(0), 0);
        due("1", x.minutes(1), 1);
        due("200", x.minutes(200), 201);
        due("0 again", x.minutes(0), 201);
        write(x, 0, 2, "p");
        x.minutes(0);
        due("no minute passed", x.letter(0, 0), 0);

        doc.promise(21, "NONE: n, NOW would be above 2,000.", "n");
        UnaskedLetters y = net();
        for (int n : new int[] {-1, 201, 202, 2000, LEAST, MOST}) {
            due("minutes " + n, y.minutes(n), NONE);
            due("now", y.count(0), 0);
        }

        doc.promise(21, "NONE: n, NOW would be above 2,000.", "NOW would be above 2,000");
        UnaskedLetters z = net();
        minutesTo(z, 1801);
        write(z, 0, 2, "p");
        due("2001", z.minutes(200), NONE);
        due("now", z.count(0), 1801);
        due("no minute of it passed", z.letter(0, 0), 0);
        due("2000", z.minutes(199), 2000);
        due("no more", z.minutes(1), NONE);
        due("none more", z.minutes(0), 2000);
        due("now", z.count(0), 2000);
    }

    // ---- promises 22 to 27: marks and weights

    private static void mark() {
        doc.promise(22, "A MARK: good (true), bad.");
        UnaskedLetters x = net();
        write(x, 0, 2, "pa");
        write(x, 0, 2, "pb");
        due("good", x.mark(0, true), true);
        due("bad", x.mark(1, false), true);
        due("good ones above", x.lose(-2000, 0, 0), 1);
        due("bad ones below", x.lose(2000, 0, 1), 1);
        due("the good one", x.weight(0, 0), -1000);
        due("the bad one", x.weight(1, 0), 1000);

        doc.promise(22, "False: no such LETTER; there were 200.", "no such LETTER");
        UnaskedLetters y = net();
        due("none at first", y.mark(0, true), false);
        write(y, 0, 2, "pa");
        for (int letter : beyond(1)) {
            due("letter " + letter, y.mark(letter, true), false);
        }
        due("marks", y.count(10), 0);

        doc.promise(22, "False: no such LETTER; there were 200.", "there were 200");
        UnaskedLetters z = net();
        write(z, 0, 2, "pa");
        write(z, 0, 2, "pb");
        z.mark(2, true);
        for (int i = 0; i < 200; i++) {
            due("mark", z.mark(i % 2, i % 2 == 0), true);
        }
        due("a mark more", z.mark(0, false), false);
        due("of the other one", z.mark(1, true), false);
        due("marks", z.count(10), 200);
        due("nothing of it stays", z.weight(0, 0), -1000);
    }

    private static void weight() {
        doc.promise(23, "WEIGHT as known in q.");
        UnaskedLetters x = marked();
        x.minutes(1);
        x.mark(2, false);
        due("in 3", x.weight(2, 3), 0);
        // buy: of 2 of 2 bad, no good; hello: 1 of 2 bad, 1 of 1 good; unseen: of bad alone.
        due("in 4", x.weight(2, 4), 1000 - 333 + 1000);

        String sentence = "-1,000,000: no such LETTER, q, it was written behind q.";
        doc.promise(23, sentence, "no such LETTER");
        for (int letter : beyond(3)) {
            due("letter " + letter, marked().weight(letter, 3), NO_WEIGHT);
        }
        doc.promise(23, sentence, "q");
        for (int q : beyond(4)) {
            due("q " + q, marked().weight(0, q), NO_WEIGHT);
        }
        doc.promise(23, sentence, "it was written behind q");
        due("in 2", marked().weight(0, 2), NO_WEIGHT);
        due("in 3", marked().weight(0, 3), 2000);
    }

    private static void decides() {
        String sentence = "How many WORDS DECIDE (i NONE), or which WORD of its FULL row the i-th is (by v, the greatest first).";
        doc.promise(24, sentence, "how many");
        due("two of three", marked().decides(2, 3, NONE), 2);
        due("one of one", marked().decides(1, 3, NONE), 1);
        UnaskedLetters none = net();
        write(none, 0, 2, "pa");
        due("none", none.decides(0, 0, NONE), 0);

        doc.promise(24, sentence, "which WORD of its FULL row");
        UnaskedLetters x = marked();
        write(x, 0, 2, "qunseen =20 g0ld un=73een gold buy");
        due("how many", x.decides(3, 3, NONE), 2);
        due("gold, where it stands first", x.decides(3, 3, 0), 1);
        due("buy, behind the words that are there twice", x.decides(3, 3, 1), 4);

        doc.promise(24, sentence, "the greatest first");
        UnaskedLetters y = net();
        write(y, 0, 2, "pmild");
        write(y, 0, 2, "pmild strong");
        write(y, 0, 2, "phello");
        write(y, 0, 2, "pmild strong hello");
        y.mark(0, true);
        y.mark(1, false);
        y.mark(2, true);
        due("strong, 1000", y.decides(3, 0, 0), 1);
        due("hello, 1000 without sign", y.decides(3, 0, 1), 2);
        due("mild, 333", y.decides(3, 0, 2), 0);
        write(y, 0, 2, "punseen mild strong hello");
        due("strong, 1000", y.decides(4, 0, 0), 2);
        due("hello, 1000 without sign", y.decides(4, 0, 1), 3);
        due("mild, 333", y.decides(4, 0, 2), 1);

        sentence = "NONE: likewise, none.";
        doc.promise(24, sentence, "likewise: no such LETTER");
        for (int letter : beyond(3)) {
            due("letter " + letter, marked().decides(letter, 3, NONE), NONE);
            due("letter " + letter, marked().decides(letter, 3, 0), NONE);
        }
        doc.promise(24, sentence, "likewise: q");
        for (int q : beyond(4)) {
            due("q " + q, marked().decides(0, q, NONE), NONE);
            due("q " + q, marked().decides(0, q, 0), NONE);
        }
        doc.promise(24, sentence, "likewise: it was written behind q");
        due("how many in 2", marked().decides(0, 2, NONE), NONE);
        due("the first one in 2", marked().decides(0, 2, 0), NONE);
        due("in 3", marked().decides(0, 3, 0), 0);
        doc.promise(24, sentence, "none");
        for (int i : new int[] {2, 3, 5, -2, LEAST, MOST}) {
            due("i " + i, marked().decides(0, 3, i), NONE);
        }
        due("the first one of none", none.decides(0, 0, 0), NONE);
    }

    private static void moved() {
        doc.promise(25, "MOVED, as known NOW.");
        UnaskedLetters x = marked();
        x.minutes(1);
        due("unseen would be bad", x.moved(2, false), 1000 - 333 + 1000);
        x.mark(2, false);
        due("as it is", x.moved(2, false), 0);
        due("as known now, not in 3", x.moved(0, false), 0);

        doc.promise(25, "-1,000,000: no such LETTER.");
        for (int letter : beyond(3)) {
            due("letter " + letter, marked().moved(letter, true), NO_WEIGHT);
            due("letter " + letter, marked().moved(letter, false), NO_WEIGHT);
        }
    }

    private static void lose() {
        doc.promise(26, "LOST (0), LET (1) by a LINE as known in q.");
        UnaskedLetters x = marked();
        x.minutes(1);
        x.mark(0, true);
        x.mark(1, false);
        due("lost in 3", x.lose(-1001, 3, 0), 1);
        due("let in 3", x.lose(2000, 3, 1), 1);
        due("none known in 2", x.lose(-2001, 2, 0), 0);
        due("none known in 2", x.lose(2000, 2, 1), 0);
        due("lost in 4", x.lose(-2001, 4, 0), 1);
        due("not by the weight", x.lose(-2000, 4, 0), 0);
        due("by the least line", x.lose(LEAST, 4, 0), 1);
        due("by the greatest line", x.lose(MOST, 4, 1), 1);
        due("none let by the least line", x.lose(LEAST, 4, 1), 0);
        due("none lost by the greatest line", x.lose(MOST, 4, 0), 0);

        doc.promise(26, "NONE: no such ones.", "q");
        for (int q : beyond(4)) {
            due("q " + q, marked().lose(0, q, 0), NONE);
            due("q " + q, marked().lose(0, q, 1), NONE);
        }
        doc.promise(26, "NONE: no such ones.", "what");
        for (int what : beyond(2)) {
            due("what " + what, marked().lose(0, 3, what), NONE);
        }
    }

    private static void best() {
        doc.promise(27, "BEST LINE as known in q.");
        UnaskedLetters x = marked();
        x.minutes(1);
        x.mark(1, false);
        x.mark(0, true);
        due("in 3", x.best(3), -1000);
        due("in 4", x.best(4), -2000);

        String sentence = "-1,000,000: none is marked, no such q.";
        doc.promise(27, sentence, "none is marked");
        UnaskedLetters y = net();
        write(y, 0, 2, "p");
        due("none", y.best(0), NO_WEIGHT);
        y.minutes(1);
        y.mark(0, true);
        due("none in 0", y.best(0), NO_WEIGHT);
        due("one in 1", y.best(1), 0);

        doc.promise(27, sentence, "no such q");
        for (int q : beyond(4)) {
            due("q " + q, marked().best(q), NO_WEIGHT);
        }
    }

    // ---- promises 28 to 31: paths and shops

    private static void path() {
        doc.promise(28, "A step more of a LETTER's PATH: how many there are.");
        UnaskedLetters x = net();
        write(x, 0, 2, "p");
        write(x, 0, 2, "p");
        for (int i = 1; i <= 6; i++) {
            due("step", x.path(0, 2, 0), i);
        }
        due("another letter's", x.path(1, 2, 0), 1);

        String sentence = "NONE: no such ones, MINUTE, there are six.";
        doc.promise(28, sentence, "no such ones");
        UnaskedLetters y = net();
        due("no letter", y.path(0, 0, 0), NONE);
        write(y, 0, 2, "p");
        for (int letter : beyond(1)) {
            due("letter " + letter, y.path(letter, 0, 0), NONE);
        }
        for (int house : beyond(3)) {
            due("house " + house, y.path(0, house, 0), NONE);
        }
        due("there is no path", y.falsely(0), NONE);
        due("the first step", y.path(0, 0, 0), 1);

        doc.promise(28, sentence, "MINUTE");
        UnaskedLetters z = net();
        write(z, 0, 2, "p");
        for (int minute : new int[] {-1, 2001, LEAST, MOST}) {
            due("minute " + minute, z.path(0, 0, minute), NONE);
        }
        due("minute 0", z.path(0, 0, 0), 1);
        due("minute 2000", z.path(0, 0, 2000), 2);

        doc.promise(28, sentence, "there are six");
        UnaskedLetters six = net();
        six.road(0, 1);
        write(six, 0, 2, "p");
        for (int i = 0; i < 6; i++) {
            six.path(0, i % 2, i);
        }
        due("a seventh", six.path(0, 0, 6), NONE);
        due("an eighth", six.path(0, 0, 6), NONE);
        due("nothing of it stays", six.falsely(0), NONE);
    }

    private static void falsely() {
        doc.promise(29, "FALSE FROM.");
        UnaskedLetters x = net();
        x.road(0, 1);
        write(x, 0, 2, "p");
        x.path(0, 0, 0);
        x.path(0, 1, 0);
        x.path(0, 2, 0);
        due("from 2", x.falsely(0), 2);

        String sentence = "NONE: nothing is, no PATH, no such LETTER.";
        doc.promise(29, sentence, "nothing is");
        UnaskedLetters y = net();
        write(y, 0, 2, "p");
        y.path(0, 1, 0);
        due("one step, at home", y.falsely(0), NONE);
        doc.promise(29, sentence, "no PATH");
        write(y, 0, 2, "p");
        due("no path", y.falsely(1), NONE);
        doc.promise(29, sentence, "no such LETTER");
        for (int letter : beyond(2)) {
            due("letter " + letter, y.falsely(letter), NONE);
        }
    }

    private static void give() {
        doc.promise(30, "A NAME was given to SHOPS more (bits, 0 .. 255).");
        UnaskedLetters x = net();
        due("none", x.give(2, 0), true);
        write(x, 0, 2, "p");
        due("it was given to none", x.spread(0), NONE);
        due("the highest", x.give(2, 128), true);
        due("given", x.spread(0), 128);
        due("more", x.give(2, 64), true);
        due("the lower", x.spread(0), 64);
        due("none more", x.give(2, 0), true);
        due("as it was", x.spread(0), 64);
        due("all", x.give(2, 255), true);
        due("the lowest", x.spread(0), 1);

        doc.promise(30, "False: no such ones.", "no such NAME");
        UnaskedLetters y = net();
        for (int name : beyond(6)) {
            due("name " + name, y.give(name, 1), false);
        }
        doc.promise(30, "False: no such ones.", "no such SHOPS");
        for (int shops : new int[] {-1, 256, 257, LEAST, MOST}) {
            due("shops " + shops, y.give(2, shops), false);
        }
        write(y, 0, 2, "p");
        due("nothing of it stays", y.spread(0), NONE);
    }

    private static void spread() {
        doc.promise(31, "SPREAD: the SHOPS, as bits.");
        UnaskedLetters x = net();
        due("nobody got a letter", x.spread(0), 0);
        x.give(2, 0b10100);
        x.give(3, 0b10000);
        write(x, 0, 2, "p");
        due("shop 2", x.spread(0), 0b100);
        write(x, 0, 3, "p");
        due("shop 4", x.spread(0), 0b10000);

        doc.promise(31, "NONE: none, no such HOUSE.", "none");
        UnaskedLetters y = net();
        y.give(2, 255);
        write(y, 0, 2, "p");
        write(y, 0, 3, "p");
        due("name 3 was given to none", y.spread(0), NONE);

        doc.promise(31, "NONE: none, no such HOUSE.", "no such HOUSE");
        for (int house : beyond(3)) {
            due("house " + house, net().spread(house), NONE);
        }
    }

    // ---- promises 32 to 38: swaps, stamps, hands, measures

    private static void swap() {
        String sentence = "A SWAP: the TAPE (empty then; if refused it stays) is two WORDS with one blank between, of a .. z and 0 .. 9, each of"
            + " 1 .. 12 bytes: its number.";
        doc.promise(32, sentence, "empty then, its number");
        UnaskedLetters x = new UnaskedLetters();
        due("swap", swap(x, "a b"), 0);
        due("empty then", x.count(13), 0);
        due("swap", swap(x, "0 9"), 1);
        due("swap", swap(x, "z z"), 2);

        doc.promise(32, sentence, "each of 1 .. 12 bytes");
        UnaskedLetters y = new UnaskedLetters();
        due("12 and 1", swap(y, times("a", 12) + " b"), 0);
        due("1 and 12", swap(y, "b " + times("9", 12)), 1);
        due("13 and 1", swap(y, times("a", 13) + " b"), NONE);
        due("1 and 13", swap(y, "b " + times("a", 13)), NONE);
        due("0 and 1", swap(y, " b"), NONE);
        due("1 and 0", swap(y, "b "), NONE);
        due("0 and 0", swap(y, " "), NONE);

        doc.promise(32, sentence, "if refused it stays");
        for (String text : new String[] {"a", "a  b", "a b c", times("a", 13) + " b", times("a", 160)}) {
            UnaskedLetters z = new UnaskedLetters();
            due("'" + text + "'", swap(z, text), NONE);
            due("it stays", z.count(13), text.length());
            due("none", z.count(11), 0);
        }

        doc.promise(32, "NONE: else, there are eight.", "else");
        for (char c = 1; c < 256; c++) {
            boolean right = c >= 'a' && c <= 'z' || c >= '0' && c <= '9';
            due("first " + (int) c, swap(new UnaskedLetters(), c + " b"), right ? 0 : NONE);
            due("second " + (int) c, swap(new UnaskedLetters(), "b " + c), right ? 0 : NONE);
            due("between " + (int) c, swap(new UnaskedLetters(), "a" + c + "b"), c == ' ' ? 0 : NONE);
        }
        due("nothing", swap(new UnaskedLetters(), ""), NONE);

        doc.promise(32, "NONE: else, there are eight.", "there are eight");
        UnaskedLetters eight = new UnaskedLetters();
        for (int i = 0; i < 8; i++) {
            due("swap", swap(eight, "a b"), i);
        }
        due("a ninth", swap(eight, "c d"), NONE);
        due("it stays", eight.count(13), 3);
        due("eight", eight.count(11), 8);
    }

    private static void round() {
        doc.promise(33, "ROUND: how many SWAPS (0), WAYS (1), the set of the one with the lower SWAP where two first differ, as bits (2).");
        UnaskedLetters x = marked();
        swap(x, "nothing at");
        swap(x, "gold all");
        swap(x, "buy all");
        due("one", x.round(0, 1000, 0), 1);
        due("two ways", x.round(0, 1000, 1), 2);
        due("the lower one", x.round(0, 1000, 2), 0b010);
        due("two", x.round(0, 0, 0), 2);
        due("one way", x.round(0, 0, 1), 1);
        due("both", x.round(0, 0, 2), 0b110);
        due("no swaps made", x.round(0, 2000, 0), 0);
        due("one way", x.round(0, 2000, 1), 1);
        due("the empty set", x.round(0, 2000, 2), 0);
        due("by the greatest line", x.round(0, MOST, 1), 1);

        String sentence = "NONE: none, no such ones.";
        doc.promise(33, sentence, "none");
        for (int what = 0; what < 3; what++) {
            due("below all of them", x.round(0, -1, what), NONE);
            due("the least line", x.round(0, LEAST, what), NONE);
            due("no swaps told", marked().round(0, 1999, what), NONE);
        }
        doc.promise(33, sentence, "no such LETTER");
        for (int letter : beyond(3)) {
            due("letter " + letter, x.round(letter, 2000, 0), NONE);
        }
        doc.promise(33, sentence, "no such what");
        for (int what : beyond(3)) {
            due("what " + what, x.round(0, 2000, what), NONE);
        }
    }

    private static void ends() {
        doc.promise(34, "ENDS: letters, answers 0 .. 1,000,000, price, gain 0 .. 1,000.");
        UnaskedLetters x = new UnaskedLetters();
        due("all at most", x.ends(1_000_000, 1_000, 1_000_000, 1_000), 1);
        due("letters at most", x.ends(1_000_000, 1, 0, 0), 0);
        due("price at most", x.ends(1, 1_000, 1, 999), 0);
        due("answers at most", x.ends(1, 1, 1_000_000, 1), 20);
        due("gain at most", x.ends(1, 1, 1, 1_000), 10);
        due("all 0", x.ends(0, 0, 0, 0), NONE);
        due("the greatest product", x.ends(1_000_000, 1_000, 0, 0), 0);

        String sentence = "NONE: none, out of bounds.";
        doc.promise(34, sentence, "none");
        due("no letters", x.ends(0, 1_000, 0, 0), NONE);
        due("no price", x.ends(1_000_000, 0, 0, 0), NONE);
        due("2^20 of one", x.ends(1, 1, 2_048, 512), NONE);
        due("as much as a stamp of 20", x.ends(1, 125, 131_072, 1_000), NONE);
        due("a little less", x.ends(1, 125, 131_071, 1_000), 20);

        doc.promise(34, sentence, "out of bounds");
        for (int n : beyond(1_000_001)) {
            due("letters " + n, x.ends(n, 1, 0, 0), NONE);
            due("answers " + n, x.ends(1_000_000, 1_000, n, 1), NONE);
        }
        for (int n : beyond(1_001)) {
            due("price " + n, x.ends(1, n, 0, 0), NONE);
            due("gain " + n, x.ends(1_000_000, 1_000, 1, n), NONE);
        }
    }

    private static void hands() {
        doc.promise(35, "HANDS as known in q.");
        UnaskedLetters x = net();
        x.minutes(1);
        write(x, 0, 2, "pa");
        x.minutes(1);
        write(x, 2, 0, "pb");
        x.minutes(1);
        write(x, 2, 0, "pa");
        due("in 0", x.hands(0), 0);
        due("in 1", x.hands(1), 1);
        due("in 2", x.hands(2), 2);
        due("in 3", x.hands(3), 1);

        doc.promise(35, "NONE: no such q.");
        UnaskedLetters y = net();
        y.minutes(3);
        for (int q : beyond(4)) {
            due("q " + q, y.hands(q), NONE);
        }
    }

    private static void measure() {
        doc.promise(36, "A MEASURE stops LETTERS (bits 0 .. 2^30 - 1): its number.");
        UnaskedLetters x = new UnaskedLetters();
        due("none", x.measure(0), 0);
        due("all", x.measure((1 << 30) - 1), 1);
        due("measures", x.count(12), 2);

        doc.promise(36, "NONE: out of bounds, there are eight.", "out of bounds");
        for (int letters : new int[] {-1, 1 << 30, (1 << 30) + 1, LEAST, MOST}) {
            due("measure " + letters, x.measure(letters), NONE);
        }
        due("measures", x.count(12), 2);

        doc.promise(36, "NONE: out of bounds, there are eight.", "there are eight");
        UnaskedLetters y = net();
        write(y, 0, 2, "p");
        y.mark(0, false);
        for (int i = 0; i < 8; i++) {
            due("measure", y.measure(0), i);
        }
        due("a ninth", y.measure(1), NONE);
        due("eight", y.count(12), 8);
        due("nothing of it stays", y.plan(30, 1), 0);
    }

    private static void plan() {
        String sentence = "PLAN with so many good ones at most (0 .. 30): the MEASURES, as bits (0), how many bad ones it stops (1).";
        doc.promise(37, sentence);
        UnaskedLetters x = net();
        for (int i = 0; i < 30; i++) {
            write(x, 0, 2, "p");
        }
        for (int i = 0; i < 29; i++) {
            x.mark(i, true);
        }
        x.mark(29, false);
        x.measure(0);
        x.measure((1 << 30) - 1);
        due("28 good ones", x.plan(28, 0), 0);
        due("none stopped", x.plan(28, 1), 0);
        due("29 good ones", x.plan(29, 0), 0b10);
        due("one stopped", x.plan(29, 1), 1);
        due("30", x.plan(30, 1), 1);
        due("0", x.plan(0, 1), 0);
        x.measure(1 << 29);
        due("the third one alone", x.plan(0, 0), 0b100);

        doc.promise(37, "NONE: out of bounds.", "good");
        for (int good : beyond(31)) {
            due("good " + good, x.plan(good, 0), NONE);
            due("good " + good, x.plan(good, 1), NONE);
        }
        doc.promise(37, "NONE: out of bounds.", "what");
        for (int what : beyond(2)) {
            due("what " + what, x.plan(0, what), NONE);
        }
    }

    private static void count() {
        String sentence = "0 NOW, 1 HOUSES, 2 NAMES, 3 LETTERS, 4 those in boxes, 5 thrown, 6 sent back, 7 LOST, 8 RULES, 9 LISTS, 10 MARKS told,"
            + " 11 SWAPS, 12 MEASURES, 13 bytes of the TAPE.";
        doc.promise(38, sentence);
        UnaskedLetters x = net();
        rules(x, 1, false, 0, "t:k=1?1;b:k=2?1;d:k=3?500");
        x.up(2, false);
        int[] stamps = {0, 0, 0, 0, 1, 1, 2, 2, 2, 3};
        for (int stamp : stamps) {
            tape(x, "p");
            x.write(0, 2, false, stamp);
        }
        write(x, 0, 4, "p");
        x.minutes(100);
        write(x, 0, 2, "p");
        for (int i = 0; i < 4; i++) {
            x.list();
        }
        for (int i = 0; i < 9; i++) {
            x.mark(0, true);
        }
        for (int i = 0; i < 7; i++) {
            swap(x, "a b");
        }
        for (int i = 0; i < 8; i++) {
            x.measure(0);
        }
        tape(x, "abcde");
        int[] all = {100, 3, 6, 12, 4, 2, 3, 1, 1, 4, 9, 7, 8, 5};
        for (int what = 0; what < all.length; what++) {
            due("count " + what, x.count(what), all[what]);
        }

        doc.promise(38, "NONE for others.");
        for (int what : beyond(14)) {
            due("count " + what, x.count(what), NONE);
        }
    }
}
