/** For each promise of the document: ordinary calls, the edges that it names, and wrong arguments. */
public final class PromisesTest extends Calls {
    public static void main(String[] args) {
        aNewObject();
        houses();
        roads();
        names();
        feeding();
        faultsOfLetters();
        faultsOfRules();
        depthsOfRules();
        rulesAndForce();
        longRules();
        worths();
        lists();
        barsByLetters();
        barsByAsking();
        harm();
        writing();
        readers();
        unlike();
        lettersAndWhy();
        tries();
        whatRulesSee();
        minutes();
        marks();
        weights();
        fiveDecide();
        moved();
        lines();
        paths();
        spread();
        swaps();
        rounds();
        ends();
        hands();
        measures();
        plans();
        counts();
        finish("promises");
    }

    // ---- promises 1 to 7

    private static void aNewObject() {
        UnaskedLetters x = new UnaskedLetters();
        due("NONE", UnaskedLetters.NONE, -1);
        for (int what = 0; what <= 13; what++) {
            due("count " + what + " at first", x.count(what), 0);
        }
        due("letter at first", x.letter(0, 0), -1);
    }

    private static void houses() {
        UnaskedLetters x = new UnaskedLetters();
        due("up without", x.up(0, false), false);
        for (int i = 0; i < 12; i++) {
            due("house", x.house(), i);
        }
        due("house 13", x.house(), -1);
        due("houses", x.count(1), 12);
        due("is up", x.up(11, true), false);
        due("falls", x.up(11, false), true);
        due("is down", x.up(11, false), false);
        due("comes up", x.up(11, true), true);
        due("up 12", x.up(12, false), false);
        due("up -1", x.up(-1, false), false);
        due("up least", x.up(LEAST, false), false);
    }

    private static void roads() {
        UnaskedLetters x = net();
        due("road", x.road(0, 2), true);
        due("road again", x.road(0, 2), false);
        due("road back", x.road(2, 0), false);
        due("road alike", x.road(1, 1), false);
        due("road 3", x.road(0, 3), false);
        due("road from 3", x.road(3, 0), false);
        due("road -1", x.road(-1, 0), false);
        due("road most", x.road(0, MOST), false);
        due("road other", x.road(1, 2), true);
    }

    private static void names() {
        UnaskedLetters x = new UnaskedLetters();
        due("name without", x.name(0, false), -1);
        x.house();
        for (int i = 0; i < 40; i++) {
            due("name", x.name(0, i % 2 == 0), i);
        }
        due("name 41", x.name(0, true), -1);
        due("name at -1", x.name(-1, true), -1);
        due("name at 1", x.name(1, true), -1);
        due("names", x.count(2), 40);
    }

    private static void feeding() {
        UnaskedLetters x = new UnaskedLetters();
        due("nothing", x.feed(0, 0, 0, 0, 0), 0);
        due("four", x.feed(0x70000000, 0x00610000, 0x00006200, 0x00000063, 0), 4);
        tape(x, "");
        due("highest first", x.feed(0x70616263, 0, 0, 0, 0), 4);
        due("no fault", x.fault(0), -1);
        due("end 3", x.end(3), true);
        due("bytes", x.count(13), 3);
        due("end 4", x.end(4), false);
        due("end -1", x.end(-1), false);
        due("end of most", x.end(MOST), false);
        due("end all", x.end(3), true);
        due("end 0", x.end(0), true);
        due("all high", x.feed(-1, -1, -1, -1, -1), 20);
        for (int i = 2; i < 8; i++) {
            due("feed", x.feed(-1, -1, -1, -1, -1), 20 * i);
        }
        due("to 159", x.feed(-1, -1, -1, -1, 0x00ffffff), 159);
        due("two more", x.feed(0, 0, 0x01000001, 0, 0), -1);
        due("it stays", x.count(13), 159);
        due("one more", x.feed(0, 0, 0x00010000, 0, 0), 160);
        due("one too many", x.feed(0, 0, 0, 0, 1), -1);
        due("none more", x.feed(0, 0, 0, 0, 0), 160);
    }

    // ---- promise 8

    private static void faultsOfLetters() {
        String[] well = {"p", "q", "pa", "p a 9z0", "q=00=ff", "q a=7ab", "m{p}", "m{q;p}", "m{m{m{m{m{p}}}}}", "p;q;m{p;m{q}};p",
            "m{m{m{m{m{p}}}}};m{m{m{m{m{p}}}}}", "p;p;p"};
        for (String text : well) {
            due("fault of " + text, fault(text, 0), -1);
        }
        Object[][] ill = {{"", 0}, {"a", 0}, {" p", 0}, {";", 0}, {"p;", 2}, {"pA", 1}, {"p=", 1}, {"p=7a", 1}, {"p}", 1}, {"p{", 1},
            {"m", 1}, {"mp", 1}, {"m {p}", 1}, {"m{", 2}, {"m{}", 2}, {"m{p", 3}, {"m{p}}", 4}, {"m{p}p", 4}, {"m{p} ", 4},
            {"m{p;}", 4}, {"q=", 2}, {"q=7", 3}, {"q=g", 2}, {"q=7g", 3}, {"q=;p", 2}, {"q=7;p", 3}, {"m{q=}", 4}, {"m{q=7}", 5},
            {"q==77", 2}, {"q= 7", 2}, {"q=A0", 2}, {"m{m{m{m{m{m{p}}}}}}", 11}, {"m{m{m{m{m{p;m{p}", 13}, {"m{m{m{m{m{m", 11},
            {"m{m{m{m{m{mp", 11}, {"p" + (char) 200, 1}, {"p;;p", 2}, {"p; p", 2}, {"p" + (char) 1, 1}, {"t:1", 0}};
        for (Object[] one : ill) {
            due("fault of " + one[0], fault((String) one[0], 0), (Integer) one[1]);
        }
        due("no such sort", fault("p", 2), -2);
        due("sort -1", fault("p", -1), -2);
        due("sort least", fault("p", LEAST), -2);
        StringBuilder full = new StringBuilder("p");
        while (full.length() < 160) {
            full.append('z');
        }
        due("160 bytes", fault(full.toString(), 0), -1);
        full.setCharAt(159, ';');
        due("160 bytes ending too early", fault(full.toString(), 0), 160);
    }

    private static void faultsOfRules() {
        String[] well = {"t:1", "b:w", "d:l", "x:s", "t:1234", "t:0000", "t:w+l-s*k/n", "t:a=u?h", "t:r<m|y>o?1", "t:!w=1?1",
            "t:!!w=1?1", "t:(w=1)?1", "t:((w=1|l=1)&s=1)?1", "t:[w]", "t:[w+1]*2>3?4", "t:1;b:2;d:3;x:4;t:5", "t : w = 1 ? 1 ; b : 2",
            "t:[ 1 + 2 ]", "t: ! ( w = 1 ) & l = 2 ? 3", "t:w=1&!l=1|(s=1)?[1]", "t:1 + 2", "t:w=1?1;t:2"};
        for (String text : well) {
            due("fault of " + text, fault(text, 1), -1);
        }
        Object[][] ill = {{"", 0}, {"w", 0}, {"T:1", 0}, {";", 0}, {"t", 1}, {"t1", 1}, {"t:", 2}, {"t:;", 2}, {"t:1;", 4}, {"t:1;;", 4},
            {"t:12345", 6}, {"t:1 2", 4}, {"t:w l", 4}, {"t:wl", 3}, {"t:1w", 3}, {"t:+1", 2}, {"t:1+", 4}, {"t:1+*", 4}, {"t:q", 2},
            {"t:w=1", 5}, {"t:w=1;", 5}, {"t:w=1=1?1", 5}, {"t:w=1?", 6}, {"t:w=1?1?1", 7}, {"t:w=1?1=1", 7}, {"t:w?1", 3},
            {"t:w|l=1?1", 3}, {"t:w=1&?1", 6}, {"t:w=1|l?1", 7}, {"t:!w?1", 4}, {"t:!", 3}, {"t:!=", 3}, {"t:()?1", 3}, {"t:(w)=1?1", 4},
            {"t:(w=1?1", 6}, {"t:(w=1)", 7}, {"t:(w=1)+1", 7}, {"t:(w=1)=1?1", 7}, {"t:w=(1)?1", 4}, {"t:[w=1]", 4}, {"t:[]", 3},
            {"t:[w", 4}, {"t:[w)", 4}, {"t:w]", 3}, {"t:w)", 3}, {"t:[(w=1)]", 3}, {"t:w=!l=1?1", 4}, {"t:w=1?!w=1", 6}, {"t:w=1?(1)", 6},
            {"t:w=1)?1", 5}, {"t:-1", 2}, {"t:w==1?1", 4}, {"t:1" + (char) 231, 3}, {"t\u0001:1", 1}, {"t:w=1 ? 1 ;", 11}, {"p", 0}, {" t:1", 0}, {" ", 0}, {"  ", 0},
            {"t:1 ", 4}, {"t:1  ", 5}, {"t:w ", 4}, {"t:[1] ", 6}, {"t:1; ", 5}, {"t ", 2}, {"t:w=1?1 ", 8}, {"t:1 ;b:2 ", 9}};
        for (Object[] one : ill) {
            due("fault of " + one[0], fault((String) one[0], 1), (Integer) one[1]);
        }
    }

    private static void depthsOfRules() {
        due("six [", fault("t:[[[[[[1]]]]]]", 1), -1);
        due("seven [", fault("t:[[[[[[[1]]]]]]]", 1), 8);
        due("six (", fault("t:((((((w=1))))))?1", 1), -1);
        due("seven (", fault("t:(((((((w=1)))))))?1", 1), 8);
        due("six !", fault("t:!!!!!!w=1?1", 1), -1);
        due("seven !", fault("t:!!!!!!!w=1?1", 1), 8);
        due("six mixed", fault("t:!(!([[w]]=1))?1", 1), -1);
        due("seven mixed", fault("t:!(!([[[w]]]=1))?1", 1), 8);
        due("! is over behind its unit", fault("t:!!!!!!w=1&!!!!!!l=1|!!!!!!s=1?[[[[[[1]]]]]]", 1), -1);
        due("( is over behind its )", fault("t:(((((w=1)))))&((((((w=1))))))?1", 1), -1);
        due("seventh in a sum", fault("t:!!!!!![w]=1?1", 1), 8);
        due("deep row behind ]", fault("t:[[[[[[1]]]]]]+[[[[[[1+[", 1), 24);
    }

    // ---- promises 9 to 14

    private static void rulesAndForce() {
        UnaskedLetters x = net();
        x.list();
        due("empty tape", x.rules(0, false, 0), -1);
        tape(x, "t:1;");
        due("fault", x.rules(0, false, 0), -1);
        due("refused, it stays", x.count(13), 4);
        x.end(3);
        due("no house", x.rules(3, false, 0), -1);
        due("house -1", x.rules(-1, false, 0), -1);
        due("no list", x.rules(1, true, 0), -1);
        due("from -1", x.rules(0, false, -1), -1);
        due("from 2001", x.rules(0, false, 2001), -1);
        due("rules", x.rules(0, false, 2000), 0);
        due("empty then", x.count(13), 0);
        x.minutes(5);
        due("from behind", rules(x, 0, false, 4, "t:1"), -1);
        due("from now", rules(x, 0, false, 5, "t:1"), 1);
        due("of a list", rules(x, 0, true, 7, "x:1"), 2);
        due("later told, earlier from", rules(x, 0, false, 9, "t:1"), 3);
        due("one minute twice", rules(x, 0, false, 9, "t:2"), 4);
        x.minutes(1);
        due("told later", rules(x, 0, false, 8, "t:1"), 5);
        due("at 4", x.force(0, false, 4, 6), -1);
        due("at 5", x.force(0, false, 5, 6), 1);
        due("at 8", x.force(0, false, 8, 6), 5);
        due("at 8 known in 5", x.force(0, false, 8, 5), 1);
        due("at 9", x.force(0, false, 9, 6), 4);
        due("at 1999", x.force(0, false, 1999, 6), 4);
        due("at 2000", x.force(0, false, 2000, 6), 0);
        due("known in 0", x.force(0, false, 1999, 0), -1);
        due("list at 6", x.force(0, true, 6, 6), -1);
        due("list at 7", x.force(0, true, 7, 6), 2);
        due("list 1", x.force(1, true, 7, 6), -1);
        due("house 1", x.force(1, false, 9, 6), -1);
        due("minute 2001", x.force(0, false, 2001, 6), -1);
        due("minute -1", x.force(0, false, -1, 6), -1);
        due("q 7", x.force(0, false, 9, 7), -1);
        due("q -1", x.force(0, false, 9, -1), -1);
        due("house 3", x.force(3, false, 9, 6), -1);
        for (int i = 6; i < 20; i++) {
            due("up to twenty", rules(x, i % 3, false, 10, "b:1"), i);
        }
        due("twenty-one", rules(x, 0, false, 10, "b:1"), -1);
        due("it stays", x.count(13), 3);
        due("rules told", x.count(8), 20);
        UnaskedLetters y = net();
        due("from 0", rules(y, 2, false, 0, "t:1"), 0);
        due("at 0 known in 0", y.force(2, false, 0, 0), 0);
        due("at 2000", y.force(2, false, 2000, 0), 0);
    }

    private static void longRules() {
        due("40 clauses", thrown(times("t:0;", 39) + "t:1"), 0);
        due("40 clauses, the last one", thrown(times("b:0;", 39) + "t:1"), 1);
        due("78 terms", thrown("t:1" + times("+1", 75) + "=76?1"), 1);
        due("78 atoms", thrown("t:1" + times("*1", 75) + "=1?1"), 1);
        due("39 units", thrown("t:1=1" + times("&1=1", 38) + "?1"), 1);
        due("39 truths", thrown("t:1=0" + times("|1=0", 37) + "|1=1?1"), 1);
        due("the deepest", thrown("t:1=0|1=1&1=0-1+1*[1-2*[1-2*[1-2*[1-2*[1-2*[1-1*1]]]]]]|1=1&!(1=1&!(1=1&!(1=1&1=1-1*1)))?1"), 1);
        due("full of blanks", thrown("t" + times(" ", 100) + ":" + times(" ", 50) + "1"), 1);
    }

    private static void worths() {
        due("0", thrown("t:0"), 0);
        due("1", thrown("t:1"), 1);
        due("below 0", thrown("t:0-1"), 1);
        due("* ahead of +", thrown("t:2+3*4=14?1"), 1);
        due("[ ]", thrown("t:[2+3]*4=20?1"), 1);
        due("from the left", thrown("t:9-3-2=4?1"), 1);
        due("/ from the left", thrown("t:100/10/5=2?1"), 1);
        due("/ cuts", thrown("t:7/2=3?1"), 1);
        due("/ cuts towards 0", thrown("t:[0-7]/2=0-3?1"), 1);
        due("/ by 0", thrown("t:7/0"), 0);
        due("/ by 0 within", thrown("t:7/0+5=5?1"), 1);
        due("most", thrown("t:9999*9999=1000*1000?1"), 1);
        due("least", thrown("t:0-9999*9999=0-1000*1000?1"), 1);
        due("bound, then less", thrown("t:9999*9999-1=9999*100+99?1"), 1);
        due("no round turn", thrown("t:9999*9999*9999*9999=1000*1000?1"), 1);
        due("& ahead of |", thrown("t:1=1|1=1&1=0?1"), 1);
        due("( )", thrown("t:(1=1|1=1)&1=0?1"), 0);
        due("! binds its unit", thrown("t:!1=0&1=0?1"), 0);
        due("! of ( )", thrown("t:!(1=0&1=0)?1"), 1);
        due("!!", thrown("t:!!1=1?1"), 1);
        due("<", thrown("t:1<2?1"), 1);
        due("< alike", thrown("t:2<2?1"), 0);
        due(">", thrown("t:2>1?1"), 1);
        due("> alike", thrown("t:2>2?1"), 0);
        due("first that holds", thrown("t:1=0?1;t:1=1?0;t:1"), 0);
        due("other label", thrown("x:1;t:0;t:1"), 0);
        due("letters of lists", thrown("t:r+m+y+o"), 0);
        due("blanks", thrown("t : [ 2 + 3 ] * 4 = 20 ? 1"), 1);
        due("four digits", thrown("t:0012=12?1"), 1);
    }

    private static void lists() {
        UnaskedLetters x = net();
        due("off without", x.off(0, 0), false);
        due("bars without", x.bars(0, 0, 0, 0), -1);
        due("harm without", x.harm(0), -1);
        for (int i = 0; i < 4; i++) {
            due("list", x.list(), i);
        }
        due("list 5", x.list(), -1);
        due("lists", x.count(9), 4);
        due("no rules", x.bars(3, 0, 0, 0), 0);
        rules(x, 3, true, 0, "x:1");
        due("bars", x.bars(3, 0, 0, 0), 1);
        due("bars list 4", x.bars(4, 0, 0, 0), -1);
        due("bars list -1", x.bars(-1, 0, 0, 0), -1);
        due("bars house 3", x.bars(3, 3, 0, 0), -1);
        due("bars house -1", x.bars(3, -1, 0, 0), -1);
        due("bars minute 1", x.bars(3, 0, 1, 0), -1);
        due("bars minute -1", x.bars(3, 0, -1, 0), -1);
        due("bars q 1", x.bars(3, 0, 0, 1), -1);
        due("bars q -1", x.bars(3, 0, 0, -1), -1);
        due("off list 4", x.off(4, 0), false);
        due("off house 3", x.off(0, 3), false);
        due("off -1", x.off(-1, -1), false);
        for (int i = 0; i < 100; i++) {
            due("off", x.off(i % 4, i % 3), true);
        }
        due("off 101", x.off(0, 0), false);
    }

    private static void barsByLetters() {
        UnaskedLetters x = net();
        x.list();
        rules(x, 0, true, 0, "x:r=1&m=3&y=1&h=0&w+l+s+k+n+a+u=0?1");
        write(x, 0, 2, "p");
        write(x, 1, 5, "p");
        due("two letters", x.bars(0, 0, 0, 0), 0);
        x.minutes(2);
        write(x, 1, 0, "p");
        write(x, 2, 5, "p");
        x.minutes(2);
        due("none is bad", x.bars(0, 0, 4, 4), 0);
        x.mark(2, false);
        due("one is bad", x.bars(0, 0, 4, 4), 1);
        due("as known ahead of the mark", x.bars(0, 0, 4, 3), 0);
        due("ahead of the third letter", x.bars(0, 0, 1, 4), 0);
        due("at the third letter", x.bars(0, 0, 2, 4), 1);
        x.mark(2, true);
        due("the mark told last", x.bars(0, 0, 4, 4), 0);
        x.mark(3, false);
        due("of other houses", x.bars(0, 1, 4, 4), 0);
    }

    private static void barsByAsking() {
        UnaskedLetters x = net();
        x.list();
        x.list();
        rules(x, 0, true, 0, "x:o=9999?1;x:o=3?1");
        due("never", x.bars(0, 1, 0, 0), 1);
        x.minutes(2);
        x.off(0, 1);
        x.off(1, 2);
        due("now", x.bars(0, 1, 2, 2), 0);
        due("minute ahead of it", x.bars(0, 1, 1, 2), 1);
        due("known ahead of it", x.bars(0, 1, 2, 1), 1);
        due("other house", x.bars(0, 2, 2, 2), 1);
        x.minutes(3);
        due("three on", x.bars(0, 1, 5, 5), 1);
        due("three on, known early", x.bars(0, 1, 5, 2), 1);
        due("two on", x.bars(0, 1, 4, 5), 0);
        x.off(0, 1);
        x.minutes(3);
        due("the last one", x.bars(0, 1, 8, 8), 1);
        due("as known ahead of the last one", x.bars(0, 1, 8, 4), 0);
    }

    private static void harm() {
        UnaskedLetters x = net();
        x.list();
        rules(x, 0, true, 0, "x:h=0?1");
        for (int i = 0; i < 4; i++) {
            write(x, i, 4, "p");
        }
        due("none marked", x.harm(0), 0);
        x.mark(0, true);
        x.mark(1, true);
        x.mark(2, true);
        due("two of house 0", x.harm(0), 2);
        x.mark(1, false);
        due("one of house 0", x.harm(0), 1);
        due("harm 1", x.harm(1), -1);
        due("harm -1", x.harm(-1), -1);
    }

    // ---- promises 15 to 18

    private static void writing() {
        UnaskedLetters x = net();
        due("empty tape", x.write(0, 1, false, 0), -1);
        tape(x, "pa;");
        due("fault", x.write(0, 1, false, 0), -1);
        due("it stays", x.count(13), 3);
        x.end(2);
        due("alike", x.write(0, 0, false, 0), -1);
        due("from 6", x.write(6, 0, false, 0), -1);
        due("from -1", x.write(-1, 0, false, 0), -1);
        due("to 6", x.write(0, 6, false, 0), -1);
        due("to -1", x.write(0, -1, false, 0), -1);
        due("stamp 21", x.write(0, 1, false, 21), -1);
        due("stamp -1", x.write(0, 1, false, -1), -1);
        due("letter", x.write(0, 1, true, 20), 0);
        due("empty then", x.count(13), 0);
        x.up(0, false);
        for (int i = 1; i < 120; i++) {
            due("letter", write(x, 0, 2, "p"), i);
        }
        due("letter 121", write(x, 0, 2, "p"), -1);
        due("letters", x.count(3), 120);
    }

    private static void readers() {
        UnaskedLetters x = net();
        write(x, 0, 1, "p  0wls  13ab 5 ");
        dueWords(x, 0, 0, "0wls", "13ab", "5");
        dueWords(x, 0, 1, "owls", "leab", "s");
        write(x, 0, 1, "qbu=79 =4aoe a=20b");
        dueWords(x, 1, 0, "bu", "79", "4aoe", "a", "20b");
        dueWords(x, 1, 1, "buy", "oe", "a", "b");
        write(x, 0, 1, "q=30=31=33=35=32;pabcdefghijklmnop");
        dueWords(x, 2, 0, "30", "31", "33", "35", "32", "abcdefghijkl");
        dueWords(x, 2, 1, "oles2", "abcdefghijkl");
        write(x, 0, 1, "m{pa;m{qb;pc}};pd;p;q");
        dueWords(x, 3, 0, "a", "b", "c", "d");
        dueWords(x, 3, 1, "a", "b", "c", "d");
        write(x, 0, 1, "pabcdefghijkl abcdefghijklm zzzzzzzzzzzz 999999999999");
        dueWords(x, 4, 0, "abcdefghijkl", "abcdefghijkl", "zzzzzzzzzzzz", "999999999999");
        write(x, 0, 1, "p");
        dueWords(x, 5, 0);
        dueWords(x, 5, 1);
        due("reader 2", x.words(0, 2), -1);
        due("reader -1", x.words(0, -1), -1);
        due("letter 6", x.words(6, 0), -1);
        due("letter -1", x.words(-1, 0), -1);
        due("read letter 6", x.read(6, 0, 0, 0), -1);
        due("read reader 2", x.read(0, 2, 0, 0), -1);
        due("read word 3", x.read(0, 0, 3, 0), -1);
        due("read word -1", x.read(0, 1, -1, 0), -1);
        due("read byte 4", x.read(0, 1, 0, 4), -1);
        due("read byte -1", x.read(0, 1, 0, -1), -1);
        due("read byte most", x.read(0, 1, 0, MOST), -1);
        StringBuilder eighty = new StringBuilder("pa");
        while (eighty.length() < 160) {
            eighty.append(" a");
        }
        eighty.setLength(160);
        write(x, 0, 1, eighty.toString());
        due("eighty words", x.words(6, 1), 80);
        due("the last of them", x.read(6, 0, 79, 0), 'a');
    }

    private static void unlike() {
        UnaskedLetters x = net();
        write(x, 0, 1, "pabc 246");
        due("alike", x.unlike(0), -1);
        write(x, 0, 1, "pabc d0");
        due("a figure", x.unlike(1), 1);
        write(x, 0, 1, "qabc d=20");
        due("plain goes on", x.unlike(2), 2);
        write(x, 0, 1, "qabc =2020");
        due("both end elsewhere", x.unlike(3), 1);
        write(x, 0, 1, "pabcdefghijkl0");
        due("what is left away", x.unlike(4), -1);
        write(x, 0, 1, "p");
        due("no words", x.unlike(5), -1);
        due("letter 6", x.unlike(6), -1);
        due("letter -1", x.unlike(-1), -1);
    }

    // ---- promises 19 to 21

    private static void lettersAndWhy() {
        UnaskedLetters x = net();
        rules(x, 1, false, 0, "x:1;t:k=1?1;b:k=2?1;t:k=3?1;d:k=4?2;d:0;b:0;d:k=5?999");
        rules(x, 2, false, 0, "d:999");
        int[] stamps = {0, 1, 2, 3, 4, 5};
        for (int stamp : stamps) {
            tape(x, "p");
            x.write(0, 2, false, stamp);
        }
        tape(x, "p");
        x.write(0, 4, false, 0);
        int[] first = {0, 0, 1, 0, 0, 2};
        for (int what = 0; what <= 5; what++) {
            due("written " + what, x.letter(0, what), first[what]);
        }
        due("why of a written one", x.why(0), -1);
        x.minutes(1);
        int[] states = {1, 2, 3, 2, 4, 1, 4};
        int[] whys = {-1, 1, 2, 3, 4, -1, 0};
        int[] dues = {-1, -1, -1, -1, 3, -1, 501};
        for (int i = 0; i < states.length; i++) {
            due("state of " + i, x.letter(i, 0), states[i]);
            due("why of " + i, x.why(i), whys[i]);
            due("due of " + i, x.letter(i, 2), dues[i]);
            due("tries of " + i, x.letter(i, 1), states[i] == 4 ? 1 : 0);
            due("minute of " + i, x.letter(i, 3), 0);
        }
        due("what 6", x.letter(0, 6), -1);
        due("what -1", x.letter(0, -1), -1);
        due("letter 7", x.letter(7, 0), -1);
        due("letter -1", x.letter(-1, 0), -1);
        due("why 7", x.why(7), -1);
        due("why -1", x.why(-1), -1);
        x.minutes(1);
        due("what is settled stays", x.letter(1, 0), 2);
        x.up(1, false);
        x.minutes(1);
        due("down: a try more", x.letter(4, 1), 2);
        due("down: due ten on", x.letter(4, 2), 13);
        due("down: nobody looked", x.why(4), 4);
    }

    private static void tries() {
        UnaskedLetters x = net();
        x.up(1, false);
        x.up(0, false);
        due("from a house that is down", write(x, 0, 2, "p"), 0);
        rules(x, 2, false, 0, "t:0;d:1");
        write(x, 0, 4, "p");
        x.minutes(7);
        due("seven tries", x.letter(1, 1), 7);
        due("delayed", x.letter(1, 0), 4);
        x.minutes(1);
        due("eight tries", x.letter(1, 1), 8);
        due("sent back", x.letter(1, 0), 3);
        due("by the second clause", x.why(1), 1);
        due("not due", x.letter(1, 2), -1);
        x.minutes(52);
        due("at 60", x.letter(0, 1), 6);
        x.minutes(1);
        due("at 61", x.letter(0, 1), 7);
        due("at 61 delayed", x.letter(0, 0), 4);
        x.minutes(9);
        due("at 70", x.letter(0, 0), 4);
        x.minutes(1);
        due("at 71", x.letter(0, 0), 5);
        due("eight", x.letter(0, 1), 8);
        due("no why", x.why(0), -1);
        due("lost", x.count(7), 1);
        x.up(1, true);
        x.minutes(20);
        due("it stays", x.letter(0, 0), 5);
        due("without rules", write(x, 0, 2, "p"), 2);
        x.minutes(1);
        due("to the box", x.letter(2, 0), 1);
    }

    private static void whatRulesSee() {
        UnaskedLetters x = net();
        x.list();
        x.list();
        rules(x, 0, true, 0, "x:h=0?1");
        rules(x, 1, true, 0, "x:m>1?1");
        rules(x, 1, false, 1, "b:w=1000&l=2&s=1&k=7&n=0&a=1&u=1&h=0?1;d:n<3?2;t:n=3&a=7?1;b:h=2?0-3");
        write(x, 4, 2, "pbuy");
        write(x, 4, 2, "phello");
        x.mark(0, false);
        x.mark(1, true);
        write(x, 2, 0, "p");
        tape(x, "pbuy");
        due("the asked one", x.write(0, 2, true, 7), 3);
        tape(x, "pbuy");
        due("the other name is not asked", x.write(1, 2, true, 7), 4);
        x.minutes(1);
        due("as all letters say", x.letter(3, 0), 3);
        due("by the first clause", x.why(3), 0);
        due("not asked", x.letter(4, 0), 4);
        due("b below 0", x.letter(0, 0), 3);
        due("by the fourth clause", x.why(0), 3);
        x.minutes(6);
        due("three tries, seven minutes", x.letter(4, 0), 2);
        due("by the third clause", x.why(4), 2);
        UnaskedLetters y = net();
        rules(y, 1, false, 0, "b:u?1");
        due("a condition without sign is none", y.count(8), 0);
        rules(y, 1, false, 0, "b:u");
        write(y, 0, 2, "p");
        write(y, 2, 0, "p");
        y.minutes(1);
        due("a later letter asks nothing", y.letter(0, 0), 1);
        rules(y, 0, false, 1, "t:u");
        write(y, 2, 0, "p");
        y.minutes(1);
        due("an earlier one does", y.letter(2, 0), 2);
        UnaskedLetters z = net();
        rules(z, 1, false, 0, "t:w>0?1");
        write(z, 0, 2, "pbuy");
        write(z, 0, 4, "pbuy");
        write(z, 0, 4, "pfine");
        z.mark(1, false);
        z.mark(2, true);
        z.minutes(1);
        due("weight as known now", z.letter(0, 0), 2);
    }

    private static void minutes() {
        UnaskedLetters x = net();
        due("-1", x.minutes(-1), -1);
        due("201", x.minutes(201), -1);
        due("most", x.minutes(MOST), -1);
        due("least", x.minutes(LEAST), -1);
        due("0", x.minutes(0), 0);
        for (int i = 1; i <= 9; i++) {
            due("200", x.minutes(200), 200 * i);
        }
        due("199", x.minutes(199), 1999);
        due("2 too many", x.minutes(2), -1);
        due("1", x.minutes(1), 2000);
        due("0 at the end", x.minutes(0), 2000);
        due("1 at the end", x.minutes(1), -1);
        due("rules at the end", rules(x, 0, false, 2000, "t:1"), 0);
        write(x, 2, 0, "p");
        due("due behind the end", x.letter(0, 2), 2001);
    }

    // ---- promises 22 to 27

    private static void marks() {
        UnaskedLetters x = net();
        due("no letter", x.mark(0, true), false);
        write(x, 0, 2, "p");
        due("letter -1", x.mark(-1, true), false);
        due("letter 1", x.mark(1, true), false);
        for (int i = 0; i < 200; i++) {
            due("mark", x.mark(0, i % 2 == 0), true);
        }
        due("mark 201", x.mark(0, true), false);
        due("marks", x.count(10), 200);
        due("the last one told", x.lose(0, 0, 1), 1);
    }

    private static void weights() {
        UnaskedLetters x = net();
        write(x, 0, 2, "pbuy gold now");
        write(x, 0, 2, "phello friend now");
        write(x, 0, 2, "pbuy buy unseen");
        due("none marked", x.weight(2, 0), 0);
        x.mark(0, false);
        due("no good one", x.weight(0, 0), 0);
        due("none decide", x.decides(0, 0, -1), 0);
        x.minutes(1);
        x.mark(1, true);
        due("buy, gold, now", x.weight(0, 1), 2000);
        due("hello, friend, now", x.weight(1, 1), -2000);
        due("each once", x.weight(2, 1), 1000);
        due("known in 0", x.weight(0, 0), 0);
        write(x, 2, 4, "pn0w b0y bu7");
        due("written now", x.weight(3, 1), 0);
        due("written behind 0", x.weight(3, 0), NO_WEIGHT);
        due("letter 4", x.weight(4, 1), NO_WEIGHT);
        due("letter -1", x.weight(-1, 1), NO_WEIGHT);
        due("q 2", x.weight(0, 2), NO_WEIGHT);
        due("q -1", x.weight(0, -1), NO_WEIGHT);
        x.mark(2, true);
        due("buy: b 1 of 1, g 1 of 2: 333", x.weight(2, 1), 333 - 1000);
        x.mark(3, false);
        due("now: b 2 of 2, g 1 of 2: 333", x.weight(3, 1), 333 + 1000 + 1000);
        x.mark(3, true);
        due("now: b 1 of 1, g 2 of 3: 200", x.weight(3, 1), 200 - 1000 - 1000);
    }

    private static void fiveDecide() {
        UnaskedLetters x = net();
        write(x, 0, 2, "pa b c d e f");
        write(x, 0, 2, "pf g h a");
        write(x, 0, 2, "pa z z b a g f h c unseen");
        x.mark(0, false);
        x.mark(1, true);
        due("five decide", x.decides(2, 0, -1), 5);
        due("b first", x.decides(2, 0, 0), 3);
        due("g", x.decides(2, 0, 1), 5);
        due("h", x.decides(2, 0, 2), 7);
        due("c", x.decides(2, 0, 3), 8);
        due("a, at its first place, ahead of f", x.decides(2, 0, 4), 0);
        due("no sixth", x.decides(2, 0, 5), -1);
        due("-2", x.decides(2, 0, -2), -1);
        due("most", x.decides(2, 0, MOST), -1);
        due("weight", x.weight(2, 0), 0);
        due("letter 3", x.decides(3, 0, -1), -1);
        due("q 1", x.decides(2, 1, -1), -1);
        write(x, 0, 2, "pa f g h b c d e");
        due("the earlier ones of alike", x.weight(3, 0), -1000 - 1000 + 1000 + 1000 + 1000);
        x.minutes(1);
        write(x, 0, 2, "pa");
        due("written behind q", x.decides(4, 0, -1), -1);
        due("a of no weight decides", x.decides(4, 1, -1), 1);
        due("it is word 0", x.decides(4, 1, 0), 0);
    }

    private static void moved() {
        UnaskedLetters x = net();
        write(x, 0, 2, "pbuy");
        write(x, 0, 2, "phello");
        write(x, 0, 2, "pbuy now");
        due("no mark", x.moved(0, true), 0);
        x.mark(0, false);
        due("a first good one", x.moved(2, true), 0 - 1000);
        x.mark(1, true);
        due("marked bad too", x.moved(2, false), 1000);
        due("marked good too: buy 333, now -1000", x.moved(2, true), 333 - 1000 - 1000);
        due("in place of its own", x.moved(0, true), -1000);
        due("as it is", x.moved(0, false), 0);
        due("nothing stays of it", x.weight(2, 0), 1000);
        due("marks told", x.count(10), 2);
        due("letter 3", x.moved(3, true), NO_WEIGHT);
        due("letter -1", x.moved(-1, false), NO_WEIGHT);
    }

    private static void lines() {
        UnaskedLetters x = net();
        due("none marked", x.best(0), NO_WEIGHT);
        write(x, 0, 2, "pbuy now");
        write(x, 0, 2, "phello");
        write(x, 0, 2, "pbuy");
        write(x, 0, 2, "pnow now");
        x.mark(1, true);
        due("one weight alone", x.best(0), 0);
        x.mark(0, false);
        x.minutes(1);
        x.mark(2, true);
        x.mark(3, false);
        due("buy 0, now 1000", x.weight(0, 1), 1000);
        due("lost by 0", x.lose(0, 1, 0), 0);
        due("lost by -1", x.lose(-1, 1, 0), 1);
        due("lost by -1001", x.lose(-1001, 1, 0), 2);
        due("lost by least", x.lose(LEAST, 1, 0), 2);
        due("let by 999", x.lose(999, 1, 1), 0);
        due("let by 1000", x.lose(1000, 1, 1), 2);
        due("let by most", x.lose(MOST, 1, 1), 2);
        due("known in 0", x.lose(2000, 0, 1), 1);
        due("what 2", x.lose(0, 1, 2), -1);
        due("what -1", x.lose(0, 1, -1), -1);
        due("q 2", x.lose(0, 2, 0), -1);
        due("q -1", x.lose(0, -1, 0), -1);
        due("best", x.best(1), 0);
        due("best q 2", x.best(2), NO_WEIGHT);
        due("best q -1", x.best(-1), NO_WEIGHT);
        due("best known in 0", x.best(0), -1000);
        UnaskedLetters y = net();
        // Alike letters weigh alike: to lose the one good one costs as much as to let five bad ones.
        for (int i = 0; i < 7; i++) {
            write(y, 0, 2, i == 6 ? "pz" : "pa");
        }
        y.mark(0, true);
        y.mark(6, true);
        for (int i = 1; i < 6; i++) {
            y.mark(i, false);
        }
        due("of several the least", y.best(0), -1000);
    }

    // ---- promises 28 to 31

    private static void paths() {
        UnaskedLetters x = net();
        x.road(0, 1);
        x.road(1, 2);
        write(x, 0, 4, "p");
        due("no path", x.falsely(0), -1);
        due("first", x.path(0, 0, 5), 1);
        due("it ends elsewhere", x.falsely(0), 1);
        due("second", x.path(0, 1, 5), 2);
        due("third", x.path(0, 2, 2000), 3);
        due("all is well", x.falsely(0), -1);
        due("fourth", x.path(0, 1, 2000), 4);
        due("it ends elsewhere", x.falsely(0), 4);
        due("fifth", x.path(0, 0, 1999), 5);
        due("an earlier minute", x.falsely(0), 4);
        due("sixth", x.path(0, 0, 0), 6);
        due("seventh", x.path(0, 0, 0), -1);
        due("the first of these", x.falsely(0), 4);
        write(x, 0, 4, "p");
        x.path(1, 0, 0);
        x.path(1, 2, 0);
        due("no road", x.falsely(1), 1);
        x.road(2, 0);
        due("a road now", x.falsely(1), -1);
        x.path(1, 2, 0);
        due("the house ahead of it", x.falsely(1), 2);
        due("letter 2", x.path(2, 0, 0), -1);
        due("letter -1", x.path(-1, 0, 0), -1);
        due("house 3", x.path(1, 3, 0), -1);
        due("house -1", x.path(1, -1, 0), -1);
        due("minute -1", x.path(1, 0, -1), -1);
        due("minute 2001", x.path(1, 0, 2001), -1);
        due("falsely 2", x.falsely(2), -1);
        due("falsely -1", x.falsely(-1), -1);
    }

    private static void spread() {
        UnaskedLetters x = net();
        due("no letters", x.spread(0), 0);
        due("give", x.give(2, 0b1001), true);
        due("give 256", x.give(2, 256), false);
        due("give -1", x.give(2, -1), false);
        due("give to 6", x.give(6, 1), false);
        due("give to -1", x.give(-1, 1), false);
        due("give nothing", x.give(2, 0), true);
        write(x, 0, 2, "p");
        due("the lower one", x.spread(0), 0b0001);
        x.give(3, 0b0010);
        x.give(3, 0b0100);
        write(x, 1, 3, "p");
        due("0 and 1", x.spread(0), 0b0011);
        x.give(4, 0b1100);
        write(x, 1, 4, "p");
        due("0 and 2, ahead of 1 and 3", x.spread(0), 0b0101);
        write(x, 0, 5, "p");
        due("one that was given to none", x.spread(0), -1);
        x.give(5, 255);
        due("given then", x.spread(0), 0b0101);
        due("house 3", x.spread(3), -1);
        due("house -1", x.spread(-1), -1);
        UnaskedLetters y = net();
        write(y, 2, 0, "p");
        write(y, 0, 2, "p");
        due("asked for", y.spread(0), 0);
        due("not asked for", y.spread(1), -1);
        write(y, 1, 2, "p");
        due("asked of another name", y.spread(0), -1);
        y.give(2, 128);
        due("the highest shop", y.spread(0), 128);
        UnaskedLetters all = new UnaskedLetters();
        all.house();
        for (int i = 0; i <= 8; i++) {
            all.name(0, false);
        }
        for (int i = 0; i < 8; i++) {
            all.give(i, 1 << i);
            write(all, 8, i, "p");
        }
        due("all the shops", all.spread(0), 255);
        UnaskedLetters z = net();
        z.give(2, 1);
        write(z, 0, 2, "p");
        write(z, 2, 0, "p");
        write(z, 0, 2, "p");
        due("the first one was unasked", z.spread(0), 1);
    }

    // ---- promises 32 to 38

    private static void swaps() {
        UnaskedLetters x = new UnaskedLetters();
        String[] ill = {"", "a", "a ", " a", " a b", "a b ", "a  b", "a b c", "abcdefghijklm a", "a abcdefghijklm", "A b", "a=b c", "a;b", "ab"};
        for (String text : ill) {
            due("swap '" + text + "'", swap(x, text), -1);
            due("it stays", x.count(13), text.length());
        }
        due("swap", swap(x, "abcdefghijkl 123456789012"), 0);
        due("empty then", x.count(13), 0);
        for (int i = 1; i < 8; i++) {
            due("swap", swap(x, "a b"), i);
        }
        due("swap 9", swap(x, "a b"), -1);
        due("it stays", x.count(13), 3);
        due("swaps", x.count(11), 8);
    }

    private static void rounds() {
        UnaskedLetters x = net();
        write(x, 0, 2, "pbuy gold now pill");
        write(x, 0, 2, "phello friend");
        write(x, 4, 2, "pbuy gold now buy");
        due("none is marked", x.round(2, 0, 0), 0);
        due("none is marked, below", x.round(2, -1, 0), -1);
        x.mark(0, false);
        x.mark(1, true);
        due("3000", x.weight(2, 0), 3000);
        due("no swaps", x.round(2, 2999, 0), -1);
        due("no swaps needed", x.round(2, 3000, 0), 0);
        due("one way", x.round(2, 3000, 1), 1);
        due("the empty set", x.round(2, 3000, 2), 0);
        swap(x, "unseen hello");
        swap(x, "buy get");
        swap(x, "gold buy");
        swap(x, "now n0w");
        swap(x, "now hello");
        due("one", x.round(2, 2000, 0), 1);
        due("buy, gold (each once), now, now", x.round(2, 2000, 1), 4);
        due("the lowest", x.round(2, 2000, 2), 0b00010);
        due("to 1000", x.round(2, 1000, 0), 1);
        due("by hello alone", x.round(2, 1000, 2), 0b10000);
        due("to 0: two", x.round(2, 0, 0), 2);
        due("buy or gold, and hello", x.round(2, 0, 1), 2);
        due("the lower of them", x.round(2, 0, 2), 0b10010);
        due("to -1", x.round(2, -1, 0), -1);
        due("what 3", x.round(2, 0, 3), -1);
        due("what -1", x.round(2, 0, -1), -1);
        due("letter 3", x.round(3, 0, 0), -1);
        due("letter -1", x.round(-1, 0, 0), -1);
        UnaskedLetters y = net();
        write(y, 0, 2, "pa b");
        write(y, 0, 2, "pc");
        y.mark(0, false);
        y.mark(1, true);
        swap(y, "a b");
        swap(y, "b a");
        due("all at once: both leave both", y.round(0, 1000, 1), 2);
        due("not made one behind the other", y.round(0, 0, 0), -1);
        swap(y, "a c");
        due("the lowest of one word's", y.round(0, 0, 2), 0b100);
    }

    private static void ends() {
        UnaskedLetters x = new UnaskedLetters();
        due("0", x.ends(2, 1, 1, 1), 0);
        due("alike is not more", x.ends(1, 1, 1, 1), 1);
        due("20", x.ends(1, 1, 1_000, 1_000), 20);
        due("none", x.ends(1, 1, 2_000, 1_000), -1);
        due("2^20 and no more", x.ends(1, 1, 1_048, 1_000), 20);
        due("2^20 alike", x.ends(125, 8, 1_000_000, 1_000), 20);
        due("at most", x.ends(1_000_000, 1_000, 1_000_000, 1_000), 1);
        due("free letters", x.ends(5, 0, 0, 0), -1);
        due("letters -1", x.ends(-1, 1, 1, 1), -1);
        due("letters 1000001", x.ends(1_000_001, 1, 1, 1), -1);
        due("price -1", x.ends(1, -1, 1, 1), -1);
        due("price 1001", x.ends(1, 1_001, 1, 1), -1);
        due("answers -1", x.ends(1, 1, -1, 1), -1);
        due("answers 1000001", x.ends(1, 1, 1_000_001, 1), -1);
        due("gain -1", x.ends(1, 1, 1, -1), -1);
        due("gain 1001", x.ends(1, 1, 1, 1_001), -1);
    }

    private static void hands() {
        UnaskedLetters x = net();
        due("none wrote", x.hands(0), 0);
        write(x, 0, 2, "pa b");
        write(x, 1, 2, "pc");
        due("one house", x.hands(0), 1);
        write(x, 2, 0, "pa b a");
        write(x, 2, 0, "pb a");
        due("unlike rows", x.hands(0), 2);
        write(x, 4, 0, "pc");
        due("0 and 2", x.hands(0), 2);
        x.minutes(1);
        write(x, 3, 0, "m{qa;p6}");
        write(x, 5, 0, "pa 6");
        due("and so on", x.hands(1), 1);
        due("as known in 0", x.hands(0), 2);
        due("q 2", x.hands(2), -1);
        due("q -1", x.hands(-1), -1);
        UnaskedLetters y = net();
        write(y, 0, 2, "p");
        write(y, 2, 0, "q");
        due("empty rows are alike", y.hands(0), 1);
        UnaskedLetters z = net();
        write(z, 0, 2, "pb0y");
        write(z, 2, 0, "pboy");
        due("as the full reader sees", z.hands(0), 1);
    }

    private static void measures() {
        UnaskedLetters x = new UnaskedLetters();
        due("-1", x.measure(-1), -1);
        due("2^30", x.measure(1 << 30), -1);
        due("most", x.measure(MOST), -1);
        due("least", x.measure(LEAST), -1);
        due("2^30 - 1", x.measure((1 << 30) - 1), 0);
        for (int i = 1; i < 8; i++) {
            due("measure", x.measure(0), i);
        }
        due("measure 9", x.measure(0), -1);
        due("measures", x.count(12), 8);
    }

    private static void plans() {
        UnaskedLetters x = net();
        due("none", x.plan(30, 0), 0);
        for (int i = 0; i < 32; i++) {
            write(x, 0, 2, "p");
        }
        for (int i = 0; i < 6; i++) {
            x.mark(i, i == 3);
        }
        x.measure(0b001001);
        x.measure(0b000010);
        x.measure(0b110000);
        x.measure(0b000001);
        x.measure(0b110010);
        due("no good one", x.plan(0, 0), 0b11000);
        due("four bad ones", x.plan(0, 1), 4);
        due("one good one: the lower two", x.plan(1, 0), 0b10001);
        x.measure(0b110100);
        due("all five bad ones", x.plan(0, 1), 5);
        due("the fewest, then the lowest", x.plan(0, 0), 0b101010);
        due("with a good one", x.plan(1, 0), 0b100011);
        x.measure(1 << 29 | 1);
        due("29 is not marked", x.plan(0, 1), 5);
        x.mark(29, false);
        x.mark(30, false);
        x.mark(31, false);
        due("29 is the last", x.plan(0, 1), 6);
        due("the sixth measure", x.plan(30, 0), 0b1100010);
        due("31", x.plan(31, 0), -1);
        due("-1", x.plan(-1, 0), -1);
        due("what 2", x.plan(0, 2), -1);
        due("what -1", x.plan(0, -1), -1);
    }

    private static void counts() {
        UnaskedLetters x = net();
        rules(x, 1, false, 0, "t:k=1?1;b:k=2?1;d:k=3?5");
        int[] stamps = {0, 0, 0, 1, 1, 2, 3};
        for (int stamp : stamps) {
            tape(x, "p");
            x.write(0, 2, false, stamp);
        }
        x.minutes(1);
        x.list();
        x.mark(0, true);
        swap(x, "a b");
        x.measure(3);
        tape(x, "abc");
        int[] all = {1, 3, 6, 7, 3, 2, 1, 0, 1, 1, 1, 1, 1, 3};
        for (int what = 0; what < all.length; what++) {
            due("count " + what, x.count(what), all[what]);
        }
        due("count 14", x.count(14), -1);
        due("count -1", x.count(-1), -1);
        due("count least", x.count(LEAST), -1);
    }
}
