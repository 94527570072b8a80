/**
 * For each sentence of the terms that names a bound, a first or last one, an alike one or none, a test of its own on
 * a new object. Fails too if the document has a sentence in its terms of which nothing is tested here.
 */
public final class TermsEdgesTest extends Calls {
    private static final String RULE_LETTERS = "wlsknauhrmyo";
    private static Document doc;

    public static void main(String[] args) throws Exception {
        doc = new Document();
        manyCalls();
        constants();
        minutes();
        known();
        houses();
        roadsAndNames();
        textsOfLetters();
        bytesOfLetters();
        codedBytes();
        faultsOfLetters();
        readers();
        wordsOfReaders();
        clauses();
        conditions();
        sums();
        blanks();
        depths();
        bounds();
        division();
        worth();
        rulesInForce();
        inForceAsKnown();
        letters();
        marks();
        weights();
        values();
        five();
        moved();
        lines();
        bestLine();
        bars();
        barsUpToBoth();
        askedOff();
        harm();
        minute();
        housesDown();
        whatRulesSee();
        thrownAndSentBack();
        delayed();
        stays();
        paths();
        falseFrom();
        shops();
        spread();
        swaps();
        round();
        ends();
        hands();
        measures();
        plan();
        doc.dueTerms();
        finish("edges of the terms");
    }

    private static boolean isPlain(char c) {
        return c >= 'a' && c <= 'z' || c >= '0' && c <= '9';
    }

    private static void minutesTo(UnaskedLetters x, int minute) {
        while (x.count(0) < minute) {
            x.minutes(Math.min(200, minute - x.count(0)));
        }
    }

    private static void dueFaults(int sort, Object... textsAndFaults) {
        for (int i = 0; i < textsAndFaults.length; i += 2) {
            due("fault of '" + textsAndFaults[i] + "'", fault((String) textsAndFaults[i], sort), (Integer) textsAndFaults[i + 1]);
        }
    }

    // ---- minutes, houses, names

    private static void manyCalls() {
        about("\"An object is used for at most 512 calls\"");
        UnaskedLetters x = net();
        for (int i = 9; i < 510; i++) {
            due("minutes", x.minutes(1), i - 8);
        }
        due("call 511", x.feed(0x70000000, 0, 0, 0, 0), 1);
        due("call 512", x.write(0, 2, false, 0), 0);
    }

    private static void constants() {
        doc.term("The constants: `NONE = -1`: None; refused.");
        due("NONE", UnaskedLetters.NONE, -1);
    }

    private static void minutes() {
        doc.term("NOW is 0 at first");
        due("now", new UnaskedLetters().count(0), 0);

        doc.term("2,000 at most");
        UnaskedLetters x = new UnaskedLetters();
        minutesTo(x, 1999);
        due("2001", x.minutes(2), NONE);
        due("2000", x.minutes(1), 2000);
        due("one more", x.minutes(1), NONE);
        due("now", x.count(0), 2000);

        doc.term("all is told NOW");
        UnaskedLetters y = net();
        y.minutes(7);
        write(y, 0, 2, "p");
        due("written", y.letter(0, 3), 7);
        due("rules", rules(y, 0, false, 7, "t:1"), 0);
        due("known now", y.force(0, false, 7, 7), 0);
        due("not ahead of it", y.force(0, false, 7, 6), NONE);
    }

    private static void known() {
        doc.term("as known in q (0 .. NOW)");
        UnaskedLetters x = net();
        x.list();
        write(x, 0, 2, "p");
        x.mark(0, true);
        rules(x, 0, false, 0, "t:1");
        x.minutes(3);
        for (int q = -1; q <= 4; q++) {
            boolean is = q >= 0 && q <= 3;
            due("force " + q, x.force(0, false, 0, q), is ? 0 : NONE);
            due("bars " + q, x.bars(0, 0, 0, q), is ? 0 : NONE);
            due("weight " + q, x.weight(0, q), is ? 0 : NO_WEIGHT);
            due("decides " + q, x.decides(0, q, NONE), is ? 0 : NONE);
            due("lose " + q, x.lose(0, q, 0), is ? 0 : NONE);
            due("best " + q, x.best(q), is ? 0 : NO_WEIGHT);
            due("hands " + q, x.hands(q), is ? 1 : NONE);
        }

        doc.term("what was told in MINUTES up to q");
        UnaskedLetters y = net();
        y.list();
        rules(y, 0, true, 0, "x:o<9999?1");
        y.minutes(5);
        write(y, 0, 2, "pa");
        write(y, 0, 2, "pb");
        y.minutes(1);
        y.mark(0, true);
        y.mark(1, false);
        y.off(0, 0);
        rules(y, 0, false, 6, "t:1");
        y.minutes(1);
        due("letters in 4", y.hands(4), 0);
        due("letters in 5", y.hands(5), 1);
        due("marks in 5", y.best(5), NO_WEIGHT);
        due("marks in 6", y.best(6), -1000);
        due("asking in 5", y.bars(0, 0, 7, 5), 0);
        due("asking in 6", y.bars(0, 0, 7, 6), 1);
        due("rules in 5", y.force(0, false, 7, 5), NONE);
        due("rules in 6", y.force(0, false, 7, 6), 1);
    }

    private static void houses() {
        doc.term("HOUSES (12 at most), up at first", "12 at most");
        UnaskedLetters x = new UnaskedLetters();
        for (int i = 0; i < 12; i++) {
            due("house", x.house(), i);
        }
        due("a thirteenth", x.house(), NONE);

        doc.term("HOUSES (12 at most), up at first", "up at first");
        for (int i = 0; i < 12; i++) {
            due("up already", x.up(i, true), false);
        }

        doc.term("which may fall and come up again");
        for (int i = 0; i < 3; i++) {
            due("falls", x.up(11, false), true);
            due("comes up again", x.up(11, true), true);
        }
    }

    private static void roadsAndNames() {
        doc.term("ROADS between two HOUSES (both ways; none at first)", "none at first");
        UnaskedLetters x = net();
        write(x, 0, 2, "p");
        x.path(0, 0, 0);
        x.path(0, 1, 0);
        due("no road", x.falsely(0), 1);

        doc.term("ROADS between two HOUSES (both ways; none at first)", "both ways");
        UnaskedLetters y = net();
        y.road(0, 1);
        write(y, 0, 2, "p");
        write(y, 2, 0, "p");
        for (int i = 0; i < 2; i++) {
            y.path(i, i, 0);
            y.path(i, 1 - i, 0);
            due("way " + i, y.falsely(i), NONE);
        }

        UnaskedLetters all = new UnaskedLetters();
        for (int house = 0; house < 12; house++) {
            all.house();
            for (int other = 0; other < house; other++) {
                due("road", all.road(other, house), true);
            }
        }
        for (int i = 0; i < 144; i++) {
            due("way " + i / 12 + " " + i % 12, all.road(i / 12, i % 12), false);
        }

        doc.term("NAMES (40 at most), each at a HOUSE", "40 at most");
        UnaskedLetters z = new UnaskedLetters();
        due("a name at no house", z.name(0, false), NONE);
        z.house();
        for (int i = 0; i < 40; i++) {
            due("name", z.name(0, true), i);
        }
        due("name 41", z.name(0, false), NONE);

        doc.term("a NAME may be a TRAP");
        UnaskedLetters w = net();
        w.list();
        rules(w, 0, true, 0, "x:r");
        write(w, 0, 4, "p");
        due("to a name that is none", w.bars(0, 0, 0, 0), 0);
        write(w, 0, 5, "p");
        due("to a trap", w.bars(0, 0, 0, 0), 1);
    }

    // ---- texts of letters

    private static void textsOfLetters() {
        doc.term("TEXT of a LETTER (1 .. 160 bytes)");
        dueFaults(0, "", 0, "p", NONE, "p" + times("a", 159), NONE, "q" + times("=77", 53), NONE);
        due("160 bytes", write(net(), 0, 1, "p" + times("a", 159)), 0);
        due("no bytes", write(net(), 0, 1, ""), NONE);

        doc.term("PARTS with ; between");
        dueFaults(0, "p;p", NONE, times("p;", 79) + "qa", NONE, ";p", 0, "p;", 2, "p;;p", 2, "pp p", NONE, "m{p;q;m{p}};p", NONE, "m{p}p", 4,
            "m{;p}", 2, "m{p;}", 4);

        doc.term("PART: p and BYTES, q and BYTES, or m { PARTS }");
        for (char c = 1; c < 256; c++) {
            due("sign " + (int) c, fault(String.valueOf(c), 0), c == 'p' || c == 'q' ? NONE : c == 'm' ? 1 : 0);
            due("sign " + (int) c + " behind m", fault("m" + c, 0), c == '{' ? 2 : 1);
            due("sign " + (int) c + " in m", fault("m{" + c, 0), c == 'p' || c == 'q' || c == 'm' ? 3 : 2);
            due("sign " + (int) c + " behind p;", fault("p;" + c, 0), c == 'p' || c == 'q' ? NONE : c == 'm' ? 3 : 2);
            due("sign " + (int) c + " behind q;", fault("q;" + c, 0), c == 'p' || c == 'q' ? NONE : c == 'm' ? 3 : 2);
            due("sign " + (int) c + " behind m { }", fault("m{p}" + c, 0), c == ';' ? 5 : 4);
        }

        doc.term("at most five { within one another");
        dueFaults(0, times("m{", 5) + "p" + times("}", 5), NONE, times(times("m{", 5) + "p" + times("}", 5) + ";", 9) + "p", NONE,
            times("m{", 4) + "m{p};m{q};m{p}" + times("}", 4), NONE);

        doc.term("a sixth { is such");
        dueFaults(0, times("m{", 6), 11, times("m{", 6) + "p" + times("}", 6), 11, times("m{", 5) + "p;m{p", 13,
            "m{p};" + times("m{", 6), 16, times("m{", 5) + "p}" + ";m{m{", 16, times("m{", 5) + "m", 11, times("m{", 5) + "mp", 11);
    }

    private static void bytesOfLetters() {
        doc.term("any of a .. z, 0 .. 9, blank (32) and, in q alone, =");
        for (char c = 1; c < 256; c++) {
            boolean right = isPlain(c) || c == ' ';
            due("sign " + (int) c + " in p", fault("p" + c, 0), right ? NONE : c == ';' ? 2 : 1);
            due("sign " + (int) c + " in q", fault("q" + c, 0), right ? NONE : c == ';' || c == '=' ? 2 : 1);
            due("sign " + (int) c + " in p in m", fault("m{p" + c, 0), c == '}' ? NONE : right || c == ';' ? 4 : 3);
        }
        dueFaults(0, "q;p=77", 3, "m{q};p=77", 6, "p;q=77", NONE, "p=", 1);

        doc.term("(perhaps none)");
        dueFaults(0, "p", NONE, "q", NONE, "p;q;p", NONE, "m{p}", NONE, "m{q;p};q", NONE);
    }

    private static void codedBytes() {
        doc.term("= with two of 0 .. 9, a .. f behind it");
        for (char c = 1; c < 256; c++) {
            boolean right = c >= '0' && c <= '9' || c >= 'a' && c <= 'f';
            due("first " + (int) c, fault("q=" + c + "0", 0), right ? NONE : 2);
            due("second " + (int) c, fault("q=0" + c, 0), right ? NONE : 3);
            due("third " + (int) c, fault("q=00" + c, 0), isPlain(c) || c == ' ' ? NONE : c == ';' || c == '=' ? 5 : 4);
        }
        dueFaults(0, "q=", 2, "q=0", 3, "m{q=}", 4, "m{q=0}", 5, "q=;p", 2, "q=0;p", 3, "q==00", 2, "q=00=00", NONE);

        doc.term("= and both as one byte (16 times the first and the second)");
        for (int code = 0; code < 256; code++) {
            UnaskedLetters x = net();
            String text = Integer.toHexString(256 + code).substring(1);
            write(x, 0, 1, "qb=" + text + "d");
            if (isPlain((char) code)) {
                int figure = "0135".indexOf((char) code);
                dueWords(x, 0, 1, "b" + (figure < 0 ? (char) code : "oles".charAt(figure)) + "d");
            } else {
                dueWords(x, 0, 1, "b", "d");
            }
        }

        doc.term("(an = as such)");
        UnaskedLetters x = net();
        write(x, 0, 1, "qa=62c=20=7a");
        dueWords(x, 0, 0, "a", "62c", "20", "7a");
        dueWords(x, 0, 1, "abc", "z");
    }

    private static void faultsOfLetters() {
        doc.term("the first byte at which no TEXT can go on");
        dueFaults(0, "p;A;B", 2, "m{p}}}", 4, "}p", 0, "p}", 1, "m{p}};", 4, "p{", 1, "m{{", 2, "mm{", 1);

        doc.term("(the length, if it ends too early)");
        String text = "m{q=7a;m{p}};q=00";
        String ends = "q=00";
        for (int length = 0; length <= text.length(); length++) {
            boolean whole = length == text.length() || length == text.length() - ends.length() - 1 || length == text.length() - 3;
            due("the first " + length, fault(text.substring(0, length), 0), whole ? NONE : length);
        }
        dueFaults(0, "p" + times(" ", 158) + ";", 160, "m{p" + times("a", 157), 160);
    }

    private static void readers() {
        doc.term("in all PARTS figures folded: 0 1 3 5 as o l e s");
        UnaskedLetters x = net();
        write(x, 0, 1, "p0123456789;q0123456789;m{p0123456789;m{q=30=31=32=33=34=35=36=37=38=39}}");
        dueWords(x, 0, 1, "ol2e4s6789", "ol2e4s6789", "ol2e4s6789", "ol2e4s6789");

        doc.term("A PLAIN reader sees BYTES as they stand");
        due("words", x.words(0, 0), 13);
        for (int i = 0; i < 3; i++) {
            due("word " + i, "0123456789".equals(word(x, 0, 0, i)), true);
        }
        due("word 3", "30".equals(word(x, 0, 0, 3)), true);

        doc.term("with a blank between two");
        UnaskedLetters y = net();
        write(y, 0, 1, "pa;qb;m{pc;m{pd};pe};pf;q=67;ph");
        dueWords(y, 0, 0, "a", "b", "c", "d", "e", "f", "67", "h");
        dueWords(y, 0, 1, "a", "b", "c", "d", "e", "f", "g", "h");
        UnaskedLetters z = net();
        write(z, 0, 1, "m{pm;pp;pq};p;qm;q;qp");
        dueWords(z, 0, 0, "m", "p", "q", "m", "p");
    }

    private static void wordsOfReaders() {
        doc.term("what lies between bytes that are not a .. z, 0 .. 9");
        UnaskedLetters x = net();
        write(x, 0, 1, "p  a  z 0 9  ");
        dueWords(x, 0, 0, "a", "z", "0", "9");
        write(x, 0, 1, "p   ");
        dueWords(x, 1, 0);
        dueWords(x, 1, 1);

        doc.term("each of at most 12 bytes (what is more of it is left away)");
        UnaskedLetters y = net();
        write(y, 0, 1, "pabcdefghijk abcdefghijkl abcdefghijklm abcdefghijklmnopqrstuvwxyz n");
        for (int reader = 0; reader < 2; reader++) {
            dueWords(y, 0, reader, "abcdefghijk", "abcdefghijkl", "abcdefghijkl", "abcdefghijkl", "n");
        }
        write(y, 0, 1, "q" + times("=61", 12) + "z b" + times("=63", 11) + "d");
        dueWords(y, 1, 1, times("a", 12), "b" + times("c", 11));
        write(y, 0, 1, "p" + times("0", 159));
        dueWords(y, 2, 0, times("0", 12));
        dueWords(y, 2, 1, times("o", 12));
        write(y, 0, 1, "pabcdefghijk0;pabcdefghijkl0");
        due("byte 11 is unlike, byte 12 is left away", y.unlike(3), 0);
        dueWords(y, 3, 1, "abcdefghijko", "abcdefghijkl");

        doc.term("the first WORD (0 ..) in which both readers' rows of WORDS differ");
        UnaskedLetters z = net();
        write(z, 0, 1, "p1 3");
        due("the first of two", z.unlike(0), 0);
        write(z, 0, 1, "p" + times("a ", 78) + "5");
        due("the last of 79", z.unlike(1), 78);

        doc.term("(also if one ends)");
        UnaskedLetters w = net();
        write(w, 0, 1, "q=20");
        due("the full one has none", w.unlike(0), 0);
        write(w, 0, 1, "qa b =20");
        due("the full one ends", w.unlike(1), 2);
        write(w, 0, 1, "qa b=20");
        due("the plain one goes on", w.unlike(2), 2);
    }

    // ---- texts of rules

    private static void clauses() {
        doc.term("CLAUSES with ; between, one at least");
        dueFaults(1, "", 0, "t:1", NONE, ";", 0, "t:1;", 4, ";t:1", 0, "t:1;;t:1", 4, times("t:1;", 39) + "t:1", NONE, "t:1t:1", 3);

        doc.term("a LABEL (t b d x), a :");
        for (char c = 1; c < 256; c++) {
            boolean right = "tbdx".indexOf(c) >= 0;
            due("label " + (int) c, fault(c + ":1", 1), right ? NONE : 0);
            due("second label " + (int) c, fault("t:1;" + c + ":1", 1), right ? NONE : c == ' ' ? 5 : 4);
            due("behind it " + (int) c, fault("t" + c + "1", 1), c == ':' ? NONE : c == ' ' ? 2 : 1);
        }

        doc.term("perhaps CONDITION ?, then SUM");
        dueFaults(1, "t:w=1?2", NONE, "t:2", NONE, "t:w=1", 5, "t:w=1?", 6, "t:?2", 2, "t:w?2", 3, "t:", 2, "t:w=1?2?3", 7, "t:w=1?l=1", 7);

        doc.term("(A CLAUSE that goes on, behind its : , with ! or ( has a CONDITION.)");
        dueFaults(1, "t:!w", 4, "t:!w;", 4, "t:!w=1", 6, "t:!w=1?1", NONE, "t:(w)", 4, "t:(w+1)*2", 6, "t:(w=1)", 7, "t:(w=1)+1", 7,
            "t:(w=1)?1", NONE, "t:(w=1);", 7);
    }

    private static void conditions() {
        doc.term("TERMS of truth with | between; these: UNITS with & between");
        dueFaults(1, "t:w=1|w=1|w=1?1", NONE, "t:w=1&w=1&w=1?1", NONE, "t:|w=1?1", 2, "t:&w=1?1", 2, "t:w=1|?1", 6, "t:w=1&?1", 6,
            "t:w=1||w=1?1", 6, "t:w=1&&w=1?1", 6, "t:w=1|&w=1?1", 6, "t:w=1|w?1", 7);
        due("& ahead of |", thrown("t:1=1|1=1&1=0?1"), 1);
        due("& ahead of |, the other way", thrown("t:1=0&1=1|1=1?1"), 1);

        doc.term("UNIT: ! UNIT, ( CONDITION ), or SUM, one of = < >, SUM");
        for (char c = 1; c < 256; c++) {
            int joins = c == ' ' ? 5 : "+-*/".indexOf(c) >= 0 ? 6 : 4;
            due("between: " + (int) c, fault("t:(w" + c + "k)?1", 1), "=<>".indexOf(c) >= 0 ? NONE : joins);
        }
        dueFaults(1, "t:()?1", 3, "t:(w=1?1", 6, "t:w=1)?1", 5, "t:!?1", 3, "t:w=?1", 4, "t:w=!1?1", 4, "t:w=(1)?1", 4, "t:w<=1?1", 4,
            "t:w=1=1?1", 5, "t:!!w=1?1", NONE, "t:!(!w=1)?1", NONE);
        due("both of &", thrown("t:1=1&1=1?1"), 1);
        due("the first of &", thrown("t:1=1&1=0?1"), 0);
        due("the second of &", thrown("t:1=0&1=1?1"), 0);
        due("the first of |", thrown("t:1=1|1=0?1"), 1);
        due("the second of |", thrown("t:1=0|1=1?1"), 1);
        due("none of |", thrown("t:1=0|1=0?1"), 0);
        due("= and < and >", thrown("t:2=2&1<2&2>1?1"), 1);
        due("= or < or >", thrown("t:2=1|2<1|1>2?1"), 0);
        due("alike =", thrown("t:2=2?1"), 1);
        due("alike <", thrown("t:2<2?1"), 0);
        due("alike >", thrown("t:2>2?1"), 0);
        due("less", thrown("t:1<2&!1>2&!1=2?1"), 1);
        due("more", thrown("t:2>1&!2<1&!2=1?1"), 1);
    }

    private static void sums() {
        doc.term("a number (1 to 4 digits)");
        dueFaults(1, "t:0", NONE, "t:9", NONE, "t:0000", NONE, "t:9999", NONE, "t:w=9999?9999", NONE);
        for (char c = 1; c < 256; c++) {
            boolean goesOn = "+-*/;=<> ".indexOf(c) >= 0;
            due("sign " + (int) c + " behind a number", fault("t:1" + c, 1), c >= '0' && c <= '9' ? NONE : goesOn ? 4 : 3);
        }
        due("of four digits", thrown("t:9999=9998+1?1"), 1);
        due("with digits of 0 ahead", thrown("t:0007=7?1"), 1);

        doc.term("a fifth digit");
        dueFaults(1, "t:00000", 6, "t:99999", 6, "t:123456", 6, "t:[12345]", 7, "t:1;b:w=12345?1", 12, "t:1234+12345", 11);

        doc.term("a letter (w l s k n a u h r m y o)");
        for (char c = 1; c < 256; c++) {
            boolean is = RULE_LETTERS.indexOf(c) >= 0;
            boolean begins = "![( ".indexOf(c) >= 0 || c >= '0' && c <= '9';
            due("atom " + (int) c, fault("t:" + c, 1), is || c >= '0' && c <= '9' ? NONE : begins ? 3 : 2);
            due("second atom " + (int) c, fault("t:w*" + c + "-1", 1), is || c >= '0' && c <= '9' ? NONE : c == '[' || c == ' ' ? 5 : 4);
        }

        doc.term("[ SUM ]");
        dueFaults(1, "t:[w]", NONE, "t:[]", 3, "t:[w", 4, "t:w]", 3, "t:[w)", 4, "t:[w=1]", 4, "t:[w][w]", 5, "t:[w]2", 5, "t:2[w]", 3,
            "t:[!w=1]", 3);

        doc.term("TERMS with + or - between; TERM: ATOMS with * or / between");
        dueFaults(1, "t:-1", 2, "t:+1", 2, "t:*1", 2, "t:1-", 4, "t:1--1", 4, "t:1+*1", 4, "t:1*-1", 4, "t:1 1", 4, "t:ww", 3, "t:1w", 3);
        due("* and / ahead of + and -", thrown("t:1+2*3-8/4=5?1"), 1);
        due("- from the left", thrown("t:9-5-3=1?1"), 1);
        due("/ from the left", thrown("t:24/4/2=3?1"), 1);
        due("/ ahead of *, as they stand", thrown("t:7/2*2=6?1"), 1);
        due("[ ] ahead of all", thrown("t:2*[3+4]-[9-[5-3]]=7?1"), 1);
    }

    private static void blanks() {
        doc.term("Blanks (32) may stand between all these");
        dueFaults(1, "t : ! ( w = 1 | k < 2 & s > 3 ) ? [ 1 + 2 ] * 3 / 4 - 5 ; b : 1", NONE, "t  :  1", NONE);
        due("as without them", thrown("t : ! ( w = 1 | k < 0 & s > 3 ) ? [ 1 + 2 ] * 3 / 4 - 1 ; b : 1"), 1);
        due("as many as there may be", fault("t" + times(" ", 157) + ":1", 1), NONE);
        for (char c = 1; c < 256; c++) {
            due("sign " + (int) c, fault("t" + c + ":1", 1), c == ' ' ? NONE : c == ':' ? 2 : 1);
        }

        doc.term("Blanks (32) may stand between all these", "ahead of all and behind all isn't between");
        dueFaults(1, " ", 0, " t:1", 0, "t:1 ", 4, "t:1  ", 5, "t:1 ;b:1 ", 9, "t:1; ", 5, "t ", 2, "t: ", 3, "t:w=1 ", 6, "t:w=1? ", 7);

        doc.term("not within numbers");
        dueFaults(1, "t:1 2", 4, "t:12 34", 5, "t:1  2", 5, "t:w=1 2?1", 6);
    }

    private static void depths() {
        doc.term("at most six of ( [ ! within one another");
        dueFaults(1, "t:((((((w=1))))))?1", NONE, "t:[[[[[[1]]]]]]", NONE, "t:!!!!!!w=1?1", NONE, "t:!(!([[1]]=1))?1", NONE,
            "t:((((((w=1))))))&((((((w=1))))))?[[[[[[1]]]]]];t:[[[[[[1]]]]]]", NONE, "t:!!!!!!w=1|!!!!!!w=1&!!!!!!w=1?1", NONE,
            "t:[[[[[[1]]]]]]+[[[[[[1]]]]]]*[[[[[[1]]]]]]", NONE, "t:(((((w=1))&(((w=1))))))?1", NONE, "t:!!!!![1]=[1]?1", NONE);
        due("six of them", thrown("t:!!!!!!1=1?1"), 1);
        due("five of them", thrown("t:!!!!!1=1?1"), 0);

        doc.term("a seventh of these are such");
        dueFaults(1, "t:(((((((w=1)))))))?1", 8, "t:[[[[[[[1]]]]]]]", 8, "t:!!!!!!!w=1?1", 8, "t:!!!!!!(w=1)?1", 8, "t:!!!!!![w]=1?1", 8,
            "t:!!!!!!w=[1]?1", 10, "t:((((((!w=1))))))?1", 8, "t:(((((([w]=1))))))?1", 8, "t:w=1?[[[[[[[1", 12, "t:1+[[[[[[[", 10,
            "t:[[[[[[1]+[[", 12, "t:((((((w=1)&((", 14, "t:(((((w=1))&((((", 16, "t:1;b:(((((((", 12, "t:1=[[[[[[[", 10);
    }

    private static void bounds() {
        doc.term("Behind each sign within -1,000,000 .. 1,000,000");
        due("1,000,000", thrown("t:1000*1000-1=9999*100+99?1"), 1);
        due("one below it stays", thrown("t:1000*1000-1<1000*1000?1"), 1);
        due("+ above", thrown("t:1000*1000+1=1000*1000?1"), 1);
        due("+ above, then less", thrown("t:1000*1000+9999-1=1000*1000-1?1"), 1);
        due("- below", thrown("t:0-1000*1000-1=0-1000*1000?1"), 1);
        due("- below, then more", thrown("t:0-1000*1000-9999+1=1-1000*1000?1"), 1);
        due("- above", thrown("t:1000*1000-[0-1]=1000*1000?1"), 1);
        due("+ below", thrown("t:[0-1000*1000]+[0-1]=0-1000*1000?1"), 1);
        due("* above", thrown("t:1001*1000=1000*1000?1"), 1);
        due("* above, then by it", thrown("t:9999*9999/1000=1000?1"), 1);
        due("* below", thrown("t:[0-1001]*1000=0-1000*1000?1"), 1);
        due("* of two below", thrown("t:[0-1001]*[0-1000]=1000*1000?1"), 1);
        due("no turn at 2^31", thrown("t:1000*1000*2148=1000*1000?1"), 1);
        due("no turn at 2^32", thrown("t:[1000*1000]*[1000*1000]=1000*1000?1"), 1);
        due("within [ ]", thrown("t:[9999*9999]-[9999*9999]=0?1"), 1);
    }

    private static void division() {
        doc.term("/ cuts towards 0");
        due("7 / 2", thrown("t:7/2=3?1"), 1);
        due("-7 / 2", thrown("t:[0-7]/2=0-3?1"), 1);
        due("7 / -2", thrown("t:7/[0-2]=0-3?1"), 1);
        due("-7 / -2", thrown("t:[0-7]/[0-2]=3?1"), 1);
        due("-1 / 2", thrown("t:[0-1]/2=0?1"), 1);
        due("the least by -1", thrown("t:[0-1000*1000]/[0-1]=1000*1000?1"), 1);

        doc.term("by 0 gives 0");
        due("7 / 0", thrown("t:7/0=0?1"), 1);
        due("0 / 0", thrown("t:0/0=0?1"), 1);
        due("-7 / 0", thrown("t:[0-7]/[1-1]=0?1"), 1);
        due("by a letter of 0", thrown("t:7/k+1=1?1"), 1);
    }

    private static void worth() {
        doc.term("the SUM of its first CLAUSE whose CONDITION holds (or has none)");
        due("the first of two", thrown("t:0;t:1"), 0);
        due("the first that holds", thrown("t:1=0?0;t:1=1?1;t:0"), 1);
        due("the first without a condition", thrown("t:1=0?0;t:1;t:1=1?0"), 1);
        due("of its label", thrown("b:0;d:0;x:0;t:1"), 1);

        doc.term("0 without");
        due("no clause of it", judged("x:1"), 1);
        due("none holds", judged("t:1=0?1;b:1=0?1;d:1=0?1"), 1);

        doc.term("WHY: that CLAUSE (0 ..)");
        for (int i = 0; i < 39; i++) {
            UnaskedLetters x = net();
            rules(x, 1, false, 0, times("x:1;", i) + "t:1");
            write(x, 0, 2, "p");
            x.minutes(1);
            due("clause", x.why(0), i);
        }
    }

    private static void rulesInForce() {
        doc.term("RULES (20 texts at most)");
        UnaskedLetters x = net();
        x.list();
        for (int i = 0; i < 20; i++) {
            due("rules", rules(x, i % 3, i % 3 == 0, 0, "t:1"), i);
        }
        due("the 21st", rules(x, 0, false, 0, "t:1"), NONE);

        doc.term("RULES of a HOUSE, or of a LIST (4 at most), from a MINUTE on (NOW .. 2,000)", "4 at most");
        UnaskedLetters y = new UnaskedLetters();
        for (int i = 0; i < 4; i++) {
            due("list", y.list(), i);
            due("its rules", rules(y, i, true, 0, "x:1"), i);
        }
        due("a fifth", y.list(), NONE);
        due("its rules", rules(y, 4, true, 0, "x:1"), NONE);

        doc.term("RULES of a HOUSE, or of a LIST (4 at most), from a MINUTE on (NOW .. 2,000)", "NOW .. 2,000");
        UnaskedLetters z = net();
        z.minutes(10);
        due("from 9", rules(z, 0, false, 9, "t:1"), NONE);
        due("from 10", rules(z, 0, false, 10, "t:1"), 0);
        due("from 2000", rules(z, 0, false, 2000, "t:1"), 1);
        due("from 2001", rules(z, 0, false, 2001, "t:1"), NONE);

        doc.term("RULES of a HOUSE, or of a LIST");
        UnaskedLetters w = net();
        w.list();
        rules(w, 0, true, 0, "t:1");
        due("of a house of that number", w.force(0, false, 0, 0), NONE);
        write(w, 2, 0, "p");
        w.minutes(1);
        due("a house without", w.letter(0, 0), 1);
    }

    private static void inForceAsKnown() {
        doc.term("of those told up to q");
        UnaskedLetters x = net();
        rules(x, 0, false, 0, "t:1");
        x.minutes(3);
        rules(x, 0, false, 3, "t:1");
        due("known in 2", x.force(0, false, 3, 2), 0);
        due("known in 3", x.force(0, false, 3, 3), 1);

        doc.term("from MINUTES up to it");
        UnaskedLetters y = net();
        rules(y, 0, false, 4, "t:1");
        due("in 3", y.force(0, false, 3, 0), NONE);
        due("in 4", y.force(0, false, 4, 0), 0);

        doc.term("that from the greatest");
        UnaskedLetters z = net();
        rules(z, 0, false, 4, "t:1");
        rules(z, 0, false, 9, "t:1");
        rules(z, 0, false, 6, "t:1");
        due("in 5", z.force(0, false, 5, 0), 0);
        due("in 8", z.force(0, false, 8, 0), 2);
        due("in 9", z.force(0, false, 9, 0), 1);

        doc.term("of one MINUTE the one told last");
        UnaskedLetters w = net();
        rules(w, 0, false, 4, "t:1");
        rules(w, 0, false, 4, "t:1");
        w.minutes(1);
        rules(w, 0, false, 4, "t:1");
        due("known in 0", w.force(0, false, 4, 0), 1);
        due("known in 1", w.force(0, false, 4, 1), 2);

        doc.term("IN FORCE at a MINUTE");
        UnaskedLetters v = net();
        rules(v, 1, false, 2, "t:1");
        rules(v, 1, false, 3, "b:1");
        write(v, 0, 2, "p");
        v.minutes(1);
        due("none yet", v.letter(0, 0), 1);
        write(v, 0, 2, "p");
        v.minutes(1);
        due("in their first minute", v.letter(1, 0), 2);
        write(v, 0, 2, "p");
        v.minutes(1);
        due("the next ones", v.letter(2, 0), 3);
    }

    // ---- letters, marks, weights

    private static void letters() {
        doc.term("LETTERS (120 at most)");
        UnaskedLetters x = net();
        for (int i = 0; i < 120; i++) {
            due("letter", write(x, 0, 2, "p"), i);
        }
        due("letter 121", write(x, 0, 2, "p"), NONE);
        x.minutes(1);
        due("all came", x.count(4), 120);
        due("none of them otherwise", x.count(5) + x.count(6) + x.count(7), 0);
        due("still none", write(x, 0, 2, "p"), NONE);
        due("the last one is marked", x.mark(119, true), true);
        due("it is lost", x.lose(-1, 1, 0), 1);
        due("none is let", x.lose(0, 1, 1), 0);
        due("its line", x.best(1), 0);
        due("its house", x.hands(1), 1);
        x.list();
        rules(x, 0, true, 1, "x:m=120&r=0?1");
        due("all of them count", x.bars(0, 0, 1, 1), 1);
        due("its harm", x.harm(0), 1);

        doc.term("a STAMP (0 .. 20)");
        UnaskedLetters y = net();
        rules(y, 1, false, 0, "t:k=20?1;b:k=0?1");
        tape(y, "p");
        due("-1", y.write(0, 2, false, -1), NONE);
        due("0", y.write(0, 2, false, 0), 0);
        tape(y, "p");
        due("21", y.write(0, 2, false, 21), NONE);
        due("20", y.write(0, 2, false, 20), 1);
        y.minutes(1);
        due("0", y.letter(0, 0), 3);
        due("20", y.letter(1, 0), 2);

        doc.term("written NOW");
        UnaskedLetters z = net();
        minutesTo(z, 2000);
        due("in the last minute", write(z, 0, 2, "p"), 0);
        due("written", z.letter(0, 3), 2000);
        due("due", z.letter(0, 2), 2001);
    }

    private static void marks() {
        doc.term("MARKS of a LETTER (200 at most)");
        UnaskedLetters x = net();
        write(x, 0, 2, "pa");
        for (int i = 0; i < 200; i++) {
            due("mark", x.mark(0, i < 199), true);
        }
        due("mark 201", x.mark(0, true), false);
        due("mark 200 holds", x.lose(0, 0, 1), 1);

        doc.term("as known in q the one told last up to q");
        UnaskedLetters y = net();
        write(y, 0, 2, "pa");
        y.minutes(1);
        y.mark(0, true);
        y.mark(0, false);
        y.minutes(1);
        y.mark(0, true);
        due("bad in 0", y.lose(0, 0, 1), 0);
        due("good in 0", y.lose(-1, 0, 0), 0);
        due("bad in 1", y.lose(0, 1, 1), 1);
        due("good in 1", y.lose(-1, 1, 0), 0);
        due("bad in 2", y.lose(0, 2, 1), 0);
        due("good in 2", y.lose(-1, 2, 0), 1);

        doc.term("WORDS of a LETTER are those of the FULL reader, each once");
        UnaskedLetters z = net();
        write(z, 0, 2, "qbuy buy b=75y");
        write(z, 0, 2, "phello he110");
        write(z, 0, 2, "pbuy hello buy hello buy");
        z.mark(0, false);
        z.mark(1, true);
        due("buy", z.weight(0, 0), 1000);
        due("hello", z.weight(1, 0), -1000);
        due("both", z.weight(2, 0), 0);
        due("two decide", z.decides(2, 0, NONE), 2);
        z.mark(2, false);
        due("buy 1000, hello by 1 of 1 and 1 of 2", z.weight(2, 0), 1000 - 333);
    }

    private static void weights() {
        doc.term("(0, if no LETTER is marked good or none is marked bad)");
        UnaskedLetters x = net();
        write(x, 0, 2, "pa");
        write(x, 0, 2, "pb");
        due("none is marked", x.weight(0, 0), 0);
        x.mark(0, false);
        due("none is good", x.weight(0, 0), 0);
        due("none decides", x.decides(0, 0, NONE), 0);
        x.mark(0, true);
        due("none is bad", x.weight(0, 0), 0);
        due("none decides", x.decides(0, 0, NONE), 0);
        x.mark(1, false);
        due("both are", x.weight(0, 0), -1000);

        doc.term("of each of its WORDS that is in a marked LETTER");
        UnaskedLetters y = net();
        write(y, 0, 2, "pa");
        write(y, 0, 2, "pb");
        write(y, 0, 2, "pc d");
        write(y, 0, 2, "pc a");
        y.mark(0, false);
        y.mark(1, true);
        due("in none", y.weight(2, 0), 0);
        due("none decides", y.decides(2, 0, NONE), 0);
        due("one is", y.weight(3, 0), 1000);
        due("one decides", y.decides(3, 0, NONE), 1);
        due("the second word", y.decides(3, 0, 0), 1);
    }

    /** One word in so many marked letters: in b of all bad ones, in g of all good ones. */
    private static UnaskedLetters shared(int b, int bads, int g, int goods) {
        UnaskedLetters x = net();
        write(x, 0, 2, "pword");
        for (int i = 0; i < bads; i++) {
            x.mark(write(x, 0, 2, i < b ? "pword" : "p"), false);
        }
        for (int i = 0; i < goods; i++) {
            x.mark(write(x, 0, 2, i < g ? "pword" : "p"), true);
        }
        return x;
    }

    private static void values() {
        doc.term("v is 1,000 times (b G less g B) by (b G and g B), cut");
        due("of bad ones alone", shared(1, 3, 0, 2).weight(0, 0), 1000);
        due("of good ones alone", shared(0, 3, 1, 2).weight(0, 0), -1000);
        due("1 of 1, 1 of 1", shared(1, 1, 1, 1).weight(0, 0), 0);
        due("2 of 2, 1 of 2: 333.3", shared(2, 2, 1, 2).weight(0, 0), 333);
        due("1 of 2, 2 of 2: -333.3", shared(1, 2, 2, 2).weight(0, 0), -333);
        due("3 of 3, 1 of 5: 666.7", shared(3, 3, 1, 5).weight(0, 0), 666);
        due("1 of 5, 3 of 3: -666.7", shared(1, 5, 3, 3).weight(0, 0), -666);
        due("of as many letters as there may be", shared(60, 60, 1, 59).weight(0, 0), 1000 * (60 * 59 - 60) / (60 * 59 + 60));
    }

    private static void five() {
        doc.term("The five of greatest v without sign");
        UnaskedLetters x = net();
        write(x, 0, 2, "pmild a b c d e f");
        write(x, 0, 2, "pmild g");
        write(x, 0, 2, "pmild a b c");
        write(x, 0, 2, "pmild g a b c");
        write(x, 0, 2, "pmild g a b c d");
        x.mark(0, false);
        x.mark(1, true);
        due("four words", x.weight(2, 0), 3000);
        due("four decide", x.decides(2, 0, NONE), 4);
        due("five words", x.weight(3, 0), 2000);
        due("five decide", x.decides(3, 0, NONE), 5);
        due("mild is the last of them", x.decides(3, 0, 4), 0);
        due("six words, five decide", x.decides(4, 0, NONE), 5);
        due("mild doesn't", x.decides(4, 0, 4), 5);
        due("a greater one without sign", x.weight(4, 0), 3000);
        due("there is no sixth", x.decides(4, 0, 5), NONE);

        doc.term("(of alike ones that which stands earlier in it)");
        UnaskedLetters y = net();
        write(y, 0, 2, "pa b c d e f");
        write(y, 0, 2, "pg");
        write(y, 0, 2, "pa b c d e g");
        write(y, 0, 2, "pg f e d c b a");
        write(y, 0, 2, "pf b b g a c d");
        y.mark(0, false);
        y.mark(1, true);
        due("g is the sixth", y.weight(2, 0), 5000);
        due("g is the first", y.weight(3, 0), 3000);
        int[] order = {0, 1, 3, 4, 5};
        for (int i = 0; i < 5; i++) {
            due("decides " + i, y.decides(4, 0, i), order[i]);
        }
    }

    private static void moved() {
        doc.term("by how much it were more (less, below 0), if it were marked bad, or good, too");
        UnaskedLetters x = net();
        write(x, 0, 2, "pbuy");
        write(x, 0, 2, "phello");
        write(x, 0, 2, "pnew");
        write(x, 0, 2, "p");
        due("still none is good", x.moved(2, false), 0);
        x.mark(0, false);
        x.mark(1, true);
        due("more", x.moved(2, false), 1000);
        due("less", x.moved(2, true), -1000);
        due("no words", x.moved(3, false), 0);
        due("no mark stays", x.count(10), 2);
        due("no weight stays", x.weight(2, 0), 0);

        doc.term("(in place of its own mark)");
        due("the last bad one would be none", x.moved(0, true), -1000);
        due("the last good one would be none", x.moved(1, false), 1000);
        due("as it is", x.moved(0, false), 0);
        due("as it is", x.moved(1, true), 0);
    }

    private static void lines() {
        doc.term("bad is taken what weighs more");
        UnaskedLetters x = net();
        write(x, 0, 2, "pa");
        write(x, 0, 2, "pb");
        x.mark(0, true);
        x.mark(1, false);
        due("good, at the line", x.lose(-1000, 0, 0), 0);
        due("good, above it", x.lose(-1001, 0, 0), 1);
        due("bad, above it", x.lose(999, 0, 1), 0);

        doc.term("those marked bad that don't");
        due("bad, at the line", x.lose(1000, 0, 1), 1);
        due("bad, below it", x.lose(1001, 0, 1), 1);

        doc.term("LETTERS marked good that weigh more");
        write(x, 0, 2, "pb");
        due("not those without a mark", x.lose(LEAST, 0, 0), 1);
        due("not those without a mark", x.lose(MOST, 0, 1), 1);
    }

    /** Marked letters of one word each: "good bad" tells how many of each mark a word has. */
    private static UnaskedLetters alike(int... goodAndBad) {
        UnaskedLetters x = net();
        for (int i = 0; i < goodAndBad.length; i++) {
            for (int k = 0; k < goodAndBad[i]; k++) {
                x.mark(write(x, 0, 2, "pword" + (char) ('a' + i / 2)), i % 2 == 0);
            }
        }
        return x;
    }

    private static void bestLine() {
        doc.term("the least sum of LET and five times LOST");
        // Of a word that is in one good letter and in some bad ones: below it is lost one, at it are let those.
        UnaskedLetters four = alike(0, 1, 1, 4, 2, 0);
        due("four bad ones are let for one good one", four.best(0), four.weight(1, 0));
        UnaskedLetters six = alike(0, 1, 1, 6, 2, 0);
        due("six aren't", six.best(0), -1000);

        doc.term("of several the least");
        UnaskedLetters five = alike(0, 1, 1, 5, 2, 0);
        due("five cost as much", five.best(0), -1000);
        due("five, the least first", alike(2, 0, 1, 5, 0, 1).best(0), -1000);
        due("as much", five.lose(-1000, 0, 0) * 5, five.lose(five.weight(1, 0), 0, 1));
        due("none is good", alike(0, 1, 0, 1).best(0), 0);

        doc.term("of WEIGHTS of marked LETTERS");
        UnaskedLetters x = net();
        write(x, 0, 2, "pa");
        write(x, 0, 2, "pb");
        write(x, 0, 2, "pa a c");
        write(x, 0, 2, "pa b");
        x.mark(0, true);
        x.mark(1, false);
        due("not of one without a mark, between them", x.best(0), -1000);
        x.mark(0, false);
        x.mark(3, true);
        x.mark(1, true);
        due("of all marked ones", x.best(0), x.weight(3, 0));
    }

    // ---- lists

    private static void bars() {
        doc.term("if WORTH of x by its RULES IN FORCE is unlike 0");
        String[] worths = {"x:0", "x:1", "x:0-1", "x:1000*1000", "t:1", "x:1=0?1", "x:0;x:1"};
        int[] barred = {0, 1, 1, 1, 0, 0, 0};
        for (int i = 0; i < worths.length; i++) {
            UnaskedLetters x = net();
            x.list();
            rules(x, 0, true, 0, worths[i]);
            due(worths[i], x.bars(0, 0, 0, 0), barred[i]);
        }
        UnaskedLetters none = net();
        none.list();
        due("without rules", none.bars(0, 0, 0, 0), 0);
        rules(none, 0, true, 2, "x:1");
        none.minutes(2);
        due("not in force yet", none.bars(0, 0, 1, 2), 0);
        due("in force", none.bars(0, 0, 2, 2), 1);
        due("not told yet", none.bars(0, 0, 2, 0), 1);

        doc.term("r how many LETTERS", "other letters than these are 0");
        UnaskedLetters x = net();
        x.list();
        rules(x, 1, false, 0, "d:n<3?1");
        rules(x, 0, true, 0, "x:s+k+n+a+u+w+l");
        write(x, 2, 0, "pbuy");
        tape(x, "pbuy");
        x.write(0, 2, true, 20);
        write(x, 0, 1, "phello");
        x.mark(0, false);
        x.mark(2, true);
        x.minutes(2);
        due("behind a minute with letters of houses", x.bars(0, 0, 2, 2), 0);

        doc.term("h the HOUSE");
        UnaskedLetters y = net();
        y.list();
        rules(y, 0, true, 0, "x:h");
        due("house 0", y.bars(0, 0, 0, 0), 0);
        due("house 2", y.bars(0, 2, 0, 0), 1);
    }

    private static void barsUpToBoth() {
        doc.term("r how many LETTERS written from NAMES of that HOUSE to TRAPS up to that MINUTE and up to q");
        UnaskedLetters x = net();
        x.list();
        rules(x, 0, true, 0, "x:r=1?1");
        x.minutes(1);
        write(x, 0, 5, "p");
        write(x, 2, 5, "p");
        write(x, 0, 4, "p");
        x.minutes(1);
        write(x, 1, 5, "p");
        x.minutes(1);
        due("none in 0", x.bars(0, 0, 0, 3), 0);
        due("one in 1", x.bars(0, 0, 1, 3), 1);
        due("two in 2", x.bars(0, 0, 2, 3), 0);
        due("none known in 0", x.bars(0, 0, 3, 0), 0);
        due("one known in 1", x.bars(0, 0, 3, 1), 1);
        due("two known in 2", x.bars(0, 0, 3, 2), 0);

        doc.term("m how many in all likewise");
        UnaskedLetters y = net();
        y.list();
        rules(y, 0, true, 0, "x:m=2?1");
        write(y, 0, 4, "p");
        write(y, 2, 4, "p");
        y.minutes(1);
        write(y, 1, 5, "p");
        y.minutes(1);
        due("one in 0", y.bars(0, 0, 0, 2), 0);
        due("two in 1", y.bars(0, 0, 1, 2), 1);
        due("one known in 0", y.bars(0, 0, 1, 0), 0);
        due("two known in 1", y.bars(0, 0, 2, 1), 1);

        doc.term("y those of them marked bad (as known in q)");
        UnaskedLetters z = net();
        z.list();
        rules(z, 0, true, 0, "x:y=1?1");
        write(z, 0, 4, "p");
        z.minutes(1);
        write(z, 0, 4, "p");
        write(z, 2, 4, "p");
        z.minutes(1);
        z.mark(1, false);
        z.mark(2, false);
        due("written behind it", z.bars(0, 0, 0, 2), 0);
        due("written up to it", z.bars(0, 0, 1, 2), 1);
        due("marked behind q", z.bars(0, 0, 1, 1), 0);
        z.minutes(1);
        z.mark(1, true);
        due("marked bad up to 2", z.bars(0, 0, 3, 2), 1);
        due("marked good in 3", z.bars(0, 0, 3, 3), 0);
    }

    private static void askedOff() {
        doc.term("9,999 if never");
        UnaskedLetters x = net();
        x.list();
        x.list();
        rules(x, 0, true, 0, "x:o=9999?1");
        x.off(1, 0);
        x.off(0, 1);
        due("off another list", x.bars(0, 0, 0, 0), 1);
        due("another house", x.bars(0, 1, 0, 0), 0);
        minutesTo(x, 2000);
        due("never", x.bars(0, 0, 2000, 2000), 1);

        doc.term("o MINUTES since it was asked off that LIST last (up to both");
        UnaskedLetters y = net();
        y.list();
        rules(y, 0, true, 0, "x:o=4?1;x:o=0?1;x:o=9999?1");
        y.minutes(2);
        y.off(0, 0);
        y.minutes(5);
        y.off(0, 0);
        y.minutes(4);
        due("ahead of all", y.bars(0, 0, 1, 11), 1);
        due("in its minute", y.bars(0, 0, 2, 11), 1);
        due("one on", y.bars(0, 0, 3, 11), 0);
        due("four on", y.bars(0, 0, 6, 11), 1);
        due("the second one", y.bars(0, 0, 7, 11), 1);
        due("the second one, one on", y.bars(0, 0, 8, 11), 0);
        due("the second one, four on", y.bars(0, 0, 11, 11), 1);
        due("the second one not known", y.bars(0, 0, 11, 6), 0);
        due("known in 1", y.bars(0, 0, 11, 1), 1);
        due("known in 2, four on", y.bars(0, 0, 6, 2), 1);
    }

    private static void harm() {
        doc.term("LETTERS marked good from NAMES of HOUSES that are barred");
        UnaskedLetters x = net();
        x.list();
        due("no rules", x.harm(0), 0);
        rules(x, 0, true, 0, "x:h>0?1");
        for (int i = 0; i < 6; i++) {
            write(x, i, (i + 2) % 6, "p");
        }
        due("none is marked", x.harm(0), 0);
        x.mark(0, true);
        due("none of a barred one", x.harm(0), 0);
        x.mark(2, true);
        x.mark(3, false);
        x.mark(5, true);
        due("two", x.harm(0), 2);
    }

    // ---- a minute

    private static void minute() {
        doc.term("NOW is 1 more");
        UnaskedLetters x = new UnaskedLetters();
        due("one", x.minutes(1), 1);
        due("three", x.minutes(2), 3);

        doc.term("those that are written (due a MINUTE behind)");
        UnaskedLetters y = net();
        y.minutes(4);
        write(y, 0, 2, "p");
        due("due", y.letter(0, 2), 5);
        due("written", y.letter(0, 0), 0);
        y.minutes(1);
        due("looked at", y.letter(0, 0), 1);

        doc.term("or delayed, and due");
        UnaskedLetters z = net();
        rules(z, 1, false, 0, "d:n=0?3");
        write(z, 0, 2, "p");
        z.minutes(3);
        due("not due", z.letter(0, 0), 4);
        due("one try", z.letter(0, 1), 1);
        z.minutes(1);
        due("due", z.letter(0, 0), 1);
    }

    private static void housesDown() {
        doc.term("a try more, delayed (4), due 10 MINUTES on");
        UnaskedLetters x = net();
        x.up(1, false);
        write(x, 0, 2, "p");
        x.minutes(1);
        due("delayed", x.letter(0, 0), 4);
        due("a try", x.letter(0, 1), 1);
        due("due", x.letter(0, 2), 11);
        x.up(1, true);
        x.minutes(9);
        due("not yet", x.letter(0, 0), 4);
        x.minutes(1);
        due("then", x.letter(0, 0), 1);
        due("one try", x.letter(0, 1), 1);

        doc.term("with 8 tries it is LOST (5) instead");
        UnaskedLetters y = net();
        y.up(1, false);
        write(y, 0, 2, "p");
        y.minutes(61);
        due("seven", y.letter(0, 1), 7);
        due("delayed", y.letter(0, 0), 4);
        due("due", y.letter(0, 2), 71);
        y.minutes(9);
        due("still", y.letter(0, 0), 4);
        y.minutes(1);
        due("eight", y.letter(0, 1), 8);
        due("lost", y.letter(0, 0), 5);

        doc.term("with 8 tries it is LOST (5) instead", "seven of them by rules");
        UnaskedLetters z = net();
        rules(z, 1, false, 0, "d:1");
        write(z, 0, 2, "p");
        z.minutes(7);
        due("seven", z.letter(0, 1), 7);
        z.up(1, false);
        z.minutes(1);
        due("eight", z.letter(0, 1), 8);
        due("lost", z.letter(0, 0), 5);
        due("by no clause of that minute", z.why(0), 0);

        doc.term("(A LETTER from a HOUSE that is down is written all the same.)");
        UnaskedLetters w = net();
        w.up(0, false);
        due("written", write(w, 0, 2, "p"), 0);
        w.minutes(1);
        due("it came", w.letter(0, 0), 1);
    }

    /** What becomes of letter 2 with a stamp of 3 from name 4 to name 2, by these rules. */
    private static int third(String rules) {
        UnaskedLetters x = net();
        x.list();
        x.list();
        rules(x, 0, true, 0, "x:h=2?1");
        rules(x, 1, true, 0, "x:m=1?1");
        rules(x, 1, false, 0, rules);
        write(x, 0, 1, "pbuy");
        write(x, 0, 1, "phello");
        x.mark(0, false);
        x.mark(1, true);
        tape(x, "pb0y buy");
        x.write(4, 2, true, 3);
        x.minutes(5);
        return x.letter(2, 0);
    }

    private static void whatRulesSee() {
        doc.term("(none: it comes to the box, 1)");
        UnaskedLetters none = net();
        rules(none, 1, false, 2, "t:1");
        rules(none, 0, false, 0, "t:1");
        write(none, 0, 2, "p");
        none.minutes(1);
        due("no rules yet", none.letter(0, 0), 1);
        due("no rules", third("x:1"), 1);

        doc.term("l how many LISTS bar the HOUSE it comes from");
        due("two", third("t:l=2?1"), 2);
        UnaskedLetters one = net();
        for (int i = 0; i < 4; i++) {
            one.list();
        }
        rules(one, 1, true, 0, "x:0");
        rules(one, 2, true, 0, "x:1");
        rules(one, 1, false, 0, "t:l=1?1");
        write(one, 0, 2, "p");
        one.minutes(1);
        due("one of four", one.letter(0, 0), 2);

        doc.term("s 1 if it is signed, k its STAMP, n tries, a MINUTES since it was written");
        due("signed", third("t:s=1?1"), 2);
        due("unsigned", thrown("t:s=0?1"), 1);
        due("stamp", third("t:k=3?1"), 2);
        due("no tries", third("t:n=0&a=1?1"), 2);
        due("one try", third("d:n=0?3;t:n=1&a=4?1"), 2);
        UnaskedLetters late = net();
        rules(late, 1, false, 0, "d:n=0?2;t:a=3?1");
        late.minutes(5);
        write(late, 0, 2, "p");
        late.minutes(3);
        due("minutes since it was written", late.letter(0, 0), 2);

        doc.term("w WEIGHT as known NOW");
        due("b0y is no word of it", third("t:w=0?1"), 1);
        UnaskedLetters x = net();
        rules(x, 1, false, 0, "d:w=0?1;t:w=1000?1");
        write(x, 0, 2, "pbuy");
        write(x, 0, 1, "phello");
        x.minutes(1);
        due("none is marked", x.letter(0, 0), 4);
        x.mark(0, false);
        x.mark(1, true);
        x.minutes(1);
        due("as known in that minute", x.letter(0, 0), 2);

        doc.term("u 1 if the NAME it goes to has written to the other one ahead of it (a LETTER of lower number)");
        UnaskedLetters y = net();
        rules(y, 1, false, 0, "t:u=1?1");
        write(y, 0, 2, "p");
        write(y, 2, 0, "p");
        write(y, 0, 2, "p");
        write(y, 1, 2, "p");
        write(y, 0, 3, "p");
        y.minutes(1);
        due("a later one isn't ahead of it", y.letter(0, 0), 1);
        due("ahead of it", y.letter(2, 0), 2);
        due("to another name of that house", y.letter(3, 0), 1);
        due("from another name of its house", y.letter(4, 0), 1);

        doc.term("h the HOUSE it comes from");
        due("house 2", third("t:h=2?1"), 2);
        due("letters of lists", third("t:r+m+y+o=0?1"), 2);
    }

    private static void thrownAndSentBack() {
        doc.term("WORTH of t unlike 0: thrown (2)");
        due("1", judged("t:1"), 2);
        due("-1", judged("t:0-1"), 2);
        due("0", judged("t:0"), 1);
        due("ahead of all", judged("d:1;b:1;t:1"), 2);

        doc.term("else of b: sent back (3)");
        due("1", judged("b:1"), 3);
        due("-1", judged("b:0-1"), 3);
        due("0", judged("b:0"), 1);
        due("ahead of d", judged("d:1;b:1;t:0"), 3);

        doc.term("else d above 0");
        due("1", judged("d:1"), 4);
        due("0", judged("d:0"), 1);
        due("-1", judged("d:0-1"), 1);

        doc.term("else the box (1)");
        due("all 0", judged("t:0;b:0;d:0;x:1"), 1);
    }

    private static void delayed() {
        doc.term("due d MINUTES on (500 at most)");
        String[] worths = {"1", "499", "500", "501", "9999", "1000*1000"};
        int[] dues = {2, 500, 501, 501, 501, 501};
        for (int i = 0; i < worths.length; i++) {
            UnaskedLetters x = net();
            rules(x, 1, false, 0, "d:" + worths[i]);
            write(x, 0, 2, "p");
            x.minutes(1);
            due("delayed " + worths[i], x.letter(0, 2), dues[i]);
            due("a try", x.letter(0, 1), 1);
            minutesTo(x, dues[i] - 1);
            due("not tried again", x.letter(0, 1), 1);
            x.minutes(1);
            due("tried again", x.letter(0, 1), 2);
        }

        doc.term("with 8 tries it is sent back instead");
        UnaskedLetters y = net();
        rules(y, 1, false, 0, "d:1");
        write(y, 0, 2, "p");
        y.minutes(7);
        due("seven", y.letter(0, 1), 7);
        due("delayed", y.letter(0, 0), 4);
        y.minutes(1);
        due("eight", y.letter(0, 1), 8);
        due("sent back", y.letter(0, 0), 3);
        due("by that clause", y.why(0), 0);

        doc.term("with 8 tries it is sent back instead", "seven of them down");
        UnaskedLetters z = net();
        rules(z, 1, false, 0, "t:0;d:1");
        z.up(1, false);
        write(z, 0, 2, "p");
        z.minutes(61);
        due("seven", z.letter(0, 1), 7);
        z.up(1, true);
        z.minutes(10);
        due("eight", z.letter(0, 1), 8);
        due("sent back", z.letter(0, 0), 3);
        due("by that clause", z.why(0), 1);
    }

    private static void stays() {
        doc.term("What is thrown, in the box, sent back or LOST stays so.");
        UnaskedLetters x = net();
        rules(x, 1, false, 0, "t:k=1?1;b:k=2?1");
        rules(x, 1, false, 2, "t:1;b:1;d:1");
        x.up(2, false);
        for (int stamp = 0; stamp < 3; stamp++) {
            tape(x, "p");
            x.write(0, 2, false, stamp);
        }
        write(x, 0, 4, "p");
        x.minutes(71);
        x.up(2, true);
        int[] states = {1, 2, 3, 5};
        for (int i = 0; i < 4; i++) {
            due("state of " + i, x.letter(i, 0), states[i]);
        }
        x.up(1, false);
        x.minutes(200);
        x.up(1, true);
        x.minutes(200);
        for (int i = 0; i < 4; i++) {
            due("state of " + i + " at the end", x.letter(i, 0), states[i]);
            due("tries of " + i, x.letter(i, 1), i == 3 ? 8 : 0);
            due("due of " + i, x.letter(i, 2), NONE);
        }
    }

    // ---- paths

    private static void paths() {
        doc.term("PATH of a LETTER (6 at most, told one by one)");
        UnaskedLetters x = net();
        write(x, 0, 2, "p");
        for (int i = 1; i <= 6; i++) {
            due("step", x.path(0, 0, i), i);
        }
        due("a seventh", x.path(0, 0, 7), NONE);

        doc.term("a HOUSE and a MINUTE (0 .. 2,000)");
        UnaskedLetters y = net();
        write(y, 0, 2, "p");
        due("-1", y.path(0, 0, -1), NONE);
        due("0", y.path(0, 0, 0), 1);
        due("2000, far ahead of now", y.path(0, 0, 2000), 2);
        due("2001", y.path(0, 0, 2001), NONE);
    }

    private static int falseFrom(int... housesAndMinutes) {
        UnaskedLetters x = net();
        x.road(0, 1);
        x.road(1, 2);
        write(x, 0, 2, "p");
        for (int i = 0; i < housesAndMinutes.length; i += 2) {
            x.path(0, housesAndMinutes[i], housesAndMinutes[i + 1]);
        }
        return x.falsely(0);
    }

    private static void falseFrom() {
        doc.term("the first of these (from the second on)");
        due("one at home", falseFrom(1, 0), NONE);
        due("the second", falseFrom(0, 0, 2, 0, 0, 0), 1);
        due("the first of two false ones", falseFrom(0, 0, 1, 0, 1, 0, 1, 0), 2);
        due("the sixth", falseFrom(0, 0, 1, 0, 0, 0, 1, 0, 0, 0, 2, 0), 5);

        doc.term("that is the HOUSE ahead of it");
        due("the same one", falseFrom(1, 0, 1, 1), 1);
        due("the same one, two ahead", falseFrom(1, 0, 0, 1, 1, 1), NONE);

        doc.term("has no ROAD to it");
        due("0 to 2", falseFrom(0, 0, 2, 1), 1);
        due("2 to 1", falseFrom(2, 0, 1, 1), NONE);

        doc.term("or an earlier MINUTE");
        due("earlier", falseFrom(0, 5, 1, 4), 1);
        due("the same minute", falseFrom(0, 5, 1, 5), NONE);
        due("later", falseFrom(0, 5, 1, 6), NONE);
        due("earlier than the first, not than the second", falseFrom(1, 5, 0, 5, 1, 4), 2);

        doc.term("if all are well: as many as there are, if the last is not the HOUSE of the NAME it goes to");
        due("one", falseFrom(0, 0), 1);
        due("two", falseFrom(1, 0, 0, 0), 2);
        due("six", falseFrom(1, 0, 0, 0, 1, 0, 0, 0, 1, 0, 0, 0), 6);
        due("at home", falseFrom(0, 0, 1, 0), NONE);
    }

    // ---- shops

    private static void shops() {
        doc.term("SHOPS (8 at most): a NAME was given to SHOPS (bits)");
        for (int shop = 0; shop < 8; shop++) {
            UnaskedLetters x = net();
            due("give", x.give(2, 1 << shop), true);
            write(x, 0, 2, "p");
            due("shop " + shop, x.spread(0), 1 << shop);
        }
        UnaskedLetters y = net();
        due("a ninth", y.give(2, 256), false);
    }

    /** The spread by house 0, when it wrote to as many names, each of which was given to these shops. */
    private static int spreadBy(int... shops) {
        UnaskedLetters x = net();
        for (int i = 0; i < shops.length; i++) {
            int name = x.name(1 + i % 2, false);
            x.give(name, shops[i]);
            write(x, i % 2, name, "p");
        }
        return x.spread(0);
    }

    private static void spread() {
        doc.term("the fewest SHOPS such that each NAME that got a LETTER");
        due("one for all", spreadBy(0b1001, 0b1010, 0b1100), 0b1000);
        due("two", spreadBy(0b0011, 0b0110, 0b1100), 0b0101);
        due("all eight", spreadBy(1, 2, 4, 8, 16, 32, 64, 128), 255);
        due("none", spreadBy(), 0);

        doc.term("(whatever became of it)");
        UnaskedLetters x = net();
        rules(x, 1, false, 1, "t:k=1?1;b:k=2?1;d:k=3?500");
        for (int i = 0; i < 5; i++) {
            int name = x.name(1, false);
            x.give(name, 1 << i);
            tape(x, "p");
            x.write(0, name, false, i);
        }
        due("written", x.spread(0), 0b11111);
        x.minutes(1);
        due("in the box, thrown, sent back, delayed", x.spread(0), 0b11111);
        UnaskedLetters y = net();
        y.up(1, false);
        y.give(2, 4);
        write(y, 0, 2, "p");
        y.minutes(71);
        due("lost", y.letter(0, 0), 5);
        due("lost", y.spread(0), 4);

        doc.term("to which it had written none ahead of that one");
        UnaskedLetters z = net();
        z.give(0, 1);
        z.give(2, 2);
        write(z, 2, 0, "p");
        write(z, 0, 2, "p");
        due("had written ahead", z.spread(0), 0);
        due("the one that began", z.spread(1), 1);
        UnaskedLetters w = net();
        w.give(2, 2);
        write(w, 0, 2, "p");
        write(w, 2, 0, "p");
        write(w, 0, 2, "p");
        due("wrote behind it", w.spread(0), 2);
        UnaskedLetters v = net();
        v.give(2, 2);
        write(v, 2, 1, "p");
        write(v, 3, 0, "p");
        write(v, 0, 2, "p");
        due("to another name, from another name", v.spread(0), 2);

        doc.term("of several sets that with the lower SHOP where two first differ");
        due("0", spreadBy(255), 1);
        due("0 and 7, ahead of 1 and 2", spreadBy(0b10000010, 0b00000101), 0b00000011);
        due("0 and 7", spreadBy(0b10000100, 0b10000010, 0b01), 0b10000001);
        due("0 and 3, ahead of 1 and 2", spreadBy(0b0011, 0b1100, 0b1010, 0b0101), 0b1001);

        doc.term("from a NAME of that HOUSE");
        UnaskedLetters both = net();
        both.give(0, 1);
        both.give(2, 2);
        write(both, 2, 0, "p");
        write(both, 1, 2, "p");
        due("house 1", both.spread(1), 1);
        due("house 0, when house 1 was asked for ahead of it", both.spread(0), 2);
        due("house 2", both.spread(2), 0);
        UnaskedLetters all = new UnaskedLetters();
        all.house();
        for (int i = 0; i < 40; i++) {
            all.name(0, false);
            all.give(i, i < 39 ? 3 : 2);
        }
        for (int i = 0; i < 40; i++) {
            write(all, i, (i + 1) % 40, "p");
        }
        due("all forty names", all.spread(0), 2);

        doc.term("There may be none.", "SPREAD");
        due("given to none", spreadBy(1, 0), NONE);
        due("given to none", spreadBy(0), NONE);
    }

    // ---- swaps, stamps, hands, measures

    private static void swaps() {
        doc.term("SWAPS (8 at most)");
        UnaskedLetters x = net();
        write(x, 0, 2, "pbad");
        write(x, 0, 2, "pgood");
        x.mark(0, false);
        x.mark(1, true);
        for (int i = 0; i < 7; i++) {
            due("swap", swap(x, "none bad"), i);
        }
        due("the eighth", swap(x, "bad good"), 7);
        due("a ninth", swap(x, "bad good"), NONE);
        due("the eighth does it", x.round(0, 0, 2), 128);
        due("with all of the others or none", x.round(0, 0, 1), 1);
    }

    private static UnaskedLetters sold(String... swaps) {
        UnaskedLetters x = net();
        write(x, 0, 2, "pbuy gold now");
        write(x, 0, 2, "phello friend");
        write(x, 0, 2, "pbuy gold buy");
        x.mark(0, false);
        x.mark(1, true);
        for (String text : swaps) {
            swap(x, text);
        }
        return x;
    }

    private static void round() {
        doc.term("such that its WEIGHT is at most the LINE");
        UnaskedLetters x = sold("buy me", "gold it");
        due("2000", x.round(2, 2000, 0), 0);
        due("1999", x.round(2, 1999, 0), 1);
        due("1000", x.round(2, 1000, 0), 1);
        due("999", x.round(2, 999, 0), 2);
        due("0", x.round(2, 0, 0), 2);
        due("-1", x.round(2, -1, 0), NONE);

        doc.term("each one made changes each WORD that is its first into its second");
        due("both of buy", sold("buy me").round(2, 1000, 0), 1);
        due("into one that is there already", sold("buy gold").round(2, 1000, 0), 1);
        due("into one of the good", sold("buy hello").round(2, 0, 0), 1);
        due("not the folded word", sold("6uy me", "buy 6uy").round(2, 1000, 2), 0b10);

        doc.term("all at once (by the WORDS as they were");
        due("not one behind the other", sold("buy gold", "gold hello").round(2, -1000, 0), NONE);
        due("both leave both", sold("buy gold", "gold buy").round(2, 1999, 1), 2);
        due("by the other order", sold("gold hello", "buy gold").round(2, -1, 0), NONE);

        doc.term("of several SWAPS of one WORD the lowest that is made");
        UnaskedLetters y = sold("buy now", "buy hello", "gold friend");
        due("the second alone, or with the third", y.round(2, 0, 0), 1);
        due("the lower", y.round(2, 0, 2), 0b010);
        due("without the first", y.round(2, -2000, 2), 0b110);
        due("one way", y.round(2, -2000, 1), 1);

        doc.term("the fewest SWAPS made");
        UnaskedLetters fewer = sold("buy some", "gold some", "now some", "buy hello");
        due("one, found behind three sets of two", fewer.round(0, 1000, 0), 1);
        due("one way", fewer.round(0, 1000, 1), 1);
        due("the last", fewer.round(0, 1000, 2), 0b1000);

        doc.term("WAYS likewise that many");
        due("each of three", sold("buy a", "buy c", "gold d").round(2, 1000, 1), 3);
        due("two of three", sold("buy a", "buy c", "gold d").round(2, 0, 1), 2);
        due("the lower one", sold("buy a", "buy c", "gold d").round(2, 0, 2), 0b101);
        due("none made", sold("buy a").round(2, 2000, 1), 1);

        doc.term("ROUND of a LETTER and a LINE, as known NOW");
        UnaskedLetters z = sold("buy me");
        z.minutes(1);
        z.mark(0, true);
        due("no bad one now", z.round(2, 0, 0), 0);
        due("no bad one now", z.round(2, -1, 0), NONE);
    }

    private static void ends() {
        UnaskedLetters x = new UnaskedLetters();
        doc.term("the least STAMP (0 .. 20)");
        due("0", x.ends(1, 1, 0, 0), 0);
        due("1", x.ends(1, 1, 1, 1), 1);
        due("20", x.ends(1, 1, 1_000_000, 1), 20);
        due("not 21", x.ends(1, 1, 2_048, 512), NONE);

        doc.term("a STAMP of k takes 2 to the k of work");
        for (int k = 0; k < 20; k++) {
            due("more than 2^k less 1", x.ends(1, 1, (1 << k) - 1, 1), k);
        }
        due("more than 2^20 less 1", x.ends(1, 1, 41_943, 25), 20);

        doc.term("cost more than so many answers bring");
        due("as much", x.ends(8, 1, 4, 2), 1);
        due("one more", x.ends(9, 1, 4, 2), 0);

        doc.term("LETTERS times work times price above answers times gain");
        due("no turn at 2^31", x.ends(1_000_000, 1_000, 1_000_000, 999), 0);
        due("as much at most", x.ends(1_000_000, 1_000, 1_000_000, 1_000), 1);
        due("far above", x.ends(1_000, 1, 1_000_000, 1_000), 20);
        due("2^20 times as much", x.ends(953, 1, 1_000_000, 1_000), NONE);
        due("a little more", x.ends(954, 1, 1_000_000, 1_000), 20);

        doc.term("There may be none.", "ENDS");
        due("free", x.ends(1, 0, 0, 1), NONE);
        due("nobody", x.ends(0, 1, 0, 1), NONE);
    }

    private static void hands() {
        doc.term("HOUSES that wrote LETTERS with alike rows of WORDS (FULL; up to q)");
        UnaskedLetters x = net();
        due("none wrote", x.hands(0), 0);
        write(x, 0, 2, "pb0y it");
        due("one wrote", x.hands(0), 1);
        write(x, 2, 0, "qb=6fy;pit");
        due("alike for the full reader", x.hands(0), 1);
        x.minutes(1);
        write(x, 4, 0, "pit boy");
        due("another order", x.hands(1), 2);
        write(x, 4, 0, "pboy it it");
        due("one more of it", x.hands(1), 2);
        x.minutes(1);
        write(x, 5, 0, "pboy it");
        due("alike now", x.hands(2), 1);
        due("in 1", x.hands(1), 2);
        due("in 0", x.hands(0), 1);

        doc.term("are of one HAND, and so on");
        UnaskedLetters y = new UnaskedLetters();
        for (int i = 0; i < 12; i++) {
            y.house();
            y.name(i, false);
        }
        for (int i = 11; i >= 0; i--) {
            write(y, i, (i + 1) % 12, "pa" + (char) ('a' + i));
        }
        due("twelve", y.hands(0), 12);
        for (int i = 0; i < 12; i += 2) {
            write(y, i, i + 1, "pa" + (char) ('b' + i));
        }
        due("six", y.hands(0), 6);
        for (int i = 1; i < 11; i += 2) {
            write(y, i, i + 1, "pa" + (char) ('b' + i));
        }
        due("one", y.hands(0), 1);

        doc.term("how many HANDS HOUSES that wrote make");
        UnaskedLetters z = net();
        write(z, 0, 4, "pa");
        write(z, 0, 4, "pb");
        write(z, 1, 4, "pc");
        due("one house, though it wrote unlike ones", z.hands(0), 1);
    }

    private static void measures() {
        doc.term("MEASURES (8 at most): each stops LETTERS (bits of the first 30)", "8 at most");
        UnaskedLetters x = net();
        write(x, 0, 2, "p");
        x.mark(0, false);
        for (int i = 0; i < 8; i++) {
            due("measure", x.measure(i == 7 ? 1 : 0), i);
        }
        due("a ninth", x.measure(1), NONE);
        due("the eighth", x.plan(0, 0), 128);

        doc.term("MEASURES (8 at most): each stops LETTERS (bits of the first 30)", "the first 30");
        UnaskedLetters y = net();
        for (int i = 0; i < 31; i++) {
            write(y, 0, 2, "p");
            y.mark(i, false);
        }
        y.measure((1 << 30) - 1);
        due("thirty", y.plan(0, 1), 30);
        y.mark(29, true);
        due("letter 29 is good", y.plan(0, 1), 0);
        y.mark(29, false);
        y.mark(30, true);
        due("letter 30 isn't stopped", y.plan(0, 1), 30);
    }

    /** The plan with so many good ones at most: the first letters are marked so (g b, or another sign for none). */
    private static UnaskedLetters planned(String marks, int... measures) {
        UnaskedLetters x = net();
        for (int i = 0; i < marks.length(); i++) {
            write(x, 0, 2, "p");
            if (marks.charAt(i) == 'g' || marks.charAt(i) == 'b') {
                x.mark(i, marks.charAt(i) == 'g');
            }
        }
        for (int letters : measures) {
            x.measure(letters);
        }
        return x;
    }

    private static void plan() {
        doc.term("that stops the most LETTERS marked bad (as known NOW)");
        due("three", planned("bbb-", 0b0011, 0b0110, 0b1000).plan(0, 1), 3);
        due("these", planned("bbb-", 0b0011, 0b0110, 0b1000).plan(0, 0), 0b011);
        UnaskedLetters x = planned("bg", 0b01, 0b10);
        x.mark(0, true);
        x.mark(1, false);
        due("by the marks now", x.plan(0, 0), 0b10);
        due("no measures", planned("b").plan(30, 1), 0);
        due("none stops a bad one", planned("bg", 0b10, 0b100).plan(30, 0), 0);

        doc.term("and at most so many marked good");
        due("one", planned("bbgg", 0b0101, 0b1010).plan(1, 1), 1);
        due("two", planned("bbgg", 0b0101, 0b1010).plan(2, 1), 2);
        due("none", planned("bbgg", 0b0101, 0b1010).plan(0, 1), 0);
        due("one that both stop counts once", planned("bbg", 0b101, 0b110).plan(1, 1), 2);

        doc.term("of several that with the fewest MEASURES");
        due("one of them", planned("bbb", 0b001, 0b010, 0b100, 0b111).plan(0, 0), 0b1000);
        due("none of them", planned("g-", 0b01, 0b10).plan(30, 0), 0);

        doc.term("then with the lower MEASURE where two first differ");
        due("0 of 0 and 1", planned("b", 1, 1).plan(0, 0), 0b01);
        due("0 and 3, ahead of 1 and 2", planned("bbbb", 0b0011, 0b0110, 0b1001, 0b1100).plan(0, 0), 0b1001);
        due("1 and 4", planned("bbbb", 0b10000, 0b0011, 0b0001, 0b0010, 0b1100).plan(0, 0), 0b10010);
    }
}
