import java.lang.reflect.Method;
import java.util.ArrayList;
import java.util.Arrays;
import java.util.Collections;
import java.util.Comparator;
import java.util.HashMap;
import java.util.HashSet;
import java.util.LinkedHashMap;
import java.util.LinkedHashSet;
import java.util.List;
import java.util.Map;
import java.util.Random;
import java.util.Set;
import java.util.TreeMap;
import java.util.TreeSet;
import java.util.function.IntPredicate;

/**
 * Compares UnaskedLetters with a slow model of the document, written apart from it in texts, sets and a grammar,
 * over long random runs of calls (from fixed seeds).
 */
public final class ModelTest {
    private static final int RUNS = 400;
    private static final int CALLS = 500;

    public static void main(String[] args) throws Exception {
        int runs = args.length > 0 ? Integer.parseInt(args[0]) : RUNS;
        int first = args.length > 1 ? Integer.parseInt(args[1]) : 0;
        Map<String, int[]> seen = new TreeMap<>();
        for (int seed = first; seed < first + runs; seed++) {
            new Run(seed, seen).go();
        }
        for (Map.Entry<String, int[]> one : seen.entrySet()) {
            int[] n = one.getValue();
            if (n[0] == 0 || n[1] == 0) {
                System.out.println(one.getKey() + " never answered as it should do both: taken " + n[0] + ", refused " + n[1]);
                System.exit(1);
            }
            if (args.length > 2) {
                System.out.println(one.getKey() + " taken " + n[0] + ", refused " + n[1]);
            }
        }
        System.out.println("model: " + runs + " runs agree");
    }

    /** One run of random calls on both. */
    private static final class Run {
        private static final String[] VOCABULARY = {"buy", "b0y", "pill", "pi11", "gold", "now", "free", "fr33", "hello",
            "friend", "he110", "x", "zzzzzzzzzzzzyy", "zzzzzzzzzzzzqq", "42", "5", "oil", "0i1", "sell", "5e11"};
        private static final Map<String, Method> METHODS = new TreeMap<>();

        static {
            for (Method m : UnaskedLetters.class.getDeclaredMethods()) {
                if (java.lang.reflect.Modifier.isPublic(m.getModifiers())) {
                    METHODS.put(m.getName(), m);
                }
            }
        }

        private final int seed;
        private final Random random;
        private final UnaskedLetters real = new UnaskedLetters();
        private final Model model = new Model();
        private final StringBuilder trace = new StringBuilder();
        private final Map<String, int[]> seen;
        private int calls;

        Run(int seed, Map<String, int[]> seen) {
            this.seed = seed;
            this.random = new Random(seed);
            this.seen = seen;
        }

        void go() throws Exception {
            for (int i = 0; i < 2 + random.nextInt(4); i++) {
                call("house");
            }
            for (int i = 0; i < 3 + random.nextInt(8); i++) {
                call("name", pick(model.houses.size()), random.nextInt(3) == 0);
            }
            List<String> names = new ArrayList<>(METHODS.keySet());
            if (seed % 8 == 0) {
                crowd();
            }
            while (calls < CALLS) {
                int dice = random.nextInt(100);
                if (dice < 18) {
                    tape(mutated(letterText(3), 12));
                    call("write", pick(model.names.size()), pick(model.names.size()), random.nextBoolean(), random.nextInt(21));
                } else if (dice < 24) {
                    tape(mutated(rulesText(), 8));
                    boolean list = random.nextBoolean();
                    call("rules", pick(list ? model.lists : model.houses.size()), list, model.now + random.nextInt(4));
                } else if (dice < 27) {
                    tape(mutated(random.nextInt(3) == 0 ? rulesText() : letterText(6), 2));
                    call("fault", random.nextInt(2));
                } else if (dice < 29) {
                    tape(mutated(word() + " " + word(), 10));
                    call("swap");
                } else if (dice < 37) {
                    call("mark", pick(model.letters.size()), random.nextBoolean());
                } else if (dice < 43) {
                    call("minutes", random.nextInt(4) == 0 ? random.nextInt(12) : 1);
                    int letter = Math.max(0, model.letters.size() - 1 - random.nextInt(4));
                    call("why", letter);
                    call("letter", letter, random.nextInt(3));
                    call("read", letter, random.nextInt(2), random.nextInt(3), random.nextInt(5));
                    call("decides", letter, model.now, random.nextInt(4) - 1);
                    call("round", letter, random.nextInt(2_001) - 1_000, random.nextInt(3));
                } else if (dice < 46) {
                    call("list");
                    call("up", pick(model.houses.size()), random.nextInt(3) > 0);
                } else {
                    any(names.get(random.nextInt(names.size())));
                }
            }
        }

        /** As many houses, names and letters as there may be. */
        private void crowd() throws Exception {
            while (model.houses.size() < 12) {
                call("house");
            }
            while (model.names.size() < 40) {
                call("name", random.nextInt(12), random.nextInt(9) == 0);
            }
            while (model.letters.size() < 120) {
                tape((random.nextBoolean() ? "p" : "q") + word() + " " + word());
                int from = random.nextInt(40);
                call("write", from, (from + 1 + random.nextInt(39)) % 40, random.nextBoolean(), random.nextInt(21));
                if (model.tape.isEmpty() && random.nextInt(20) == 0) {
                    call("minutes", 1);
                }
            }
        }

        private int pick(int n) {
            return random.nextInt(30) == 0 ? n : random.nextInt(Math.max(1, n));
        }

        /** A call with arguments that mostly make sense, by the name of each. */
        private void any(String name) throws Exception {
            if (name.equals("end") && random.nextInt(3) > 0) {
                tape(mutated(letterText(2), 4));
                return;
            }
            if (name.equals("falsely")) {
                int letter = pick(model.letters.size());
                for (int i = random.nextInt(3); i < 4; i++) {
                    call("road", pick(model.houses.size()), pick(model.houses.size()));
                    call("path", letter, pick(model.houses.size()), model.now + i);
                }
                call(name, letter);
                return;
            }
            if (name.equals("feed")) {
                for (int i = random.nextInt(20); i < 10; i++) {
                    call("feed", random.nextInt(), random.nextInt(), random.nextInt(), random.nextInt(), random.nextInt());
                }
                return;
            }
            Class<?>[] types = METHODS.get(name).getParameterTypes();
            Object[] args = new Object[types.length];
            for (int i = 0; i < types.length; i++) {
                args[i] = types[i] == boolean.class ? random.nextBoolean() : (Object) number(name, i);
            }
            call(name, args);
        }

        private int number(String name, int i) {
            if (random.nextInt(60) == 0) {
                return new int[] {-1, -2, Integer.MIN_VALUE, Integer.MAX_VALUE, 1 << 30, (1 << 30) - 1, 256, 2001, 121}[random.nextInt(9)];
            }
            int letters = model.letters.size();
            switch (name + i) {
                case "weight1": case "decides1": case "lose1": case "best0": case "hands0": case "bars2": case "bars3":
                case "force3":
                    return random.nextInt(3) == 0 ? model.now : random.nextInt(model.now + 2);
                case "force2": case "path2": return random.nextInt(model.now + 5);
                case "decides2": return random.nextInt(8) - 1;
                case "lose0": case "round1": return (random.nextInt(13) - 6) * (random.nextBoolean() ? 500 : 333);
                case "lose2": return random.nextInt(2);
                case "words1": case "read1": return random.nextInt(20) == 0 ? 2 : random.nextInt(2);
                case "read2": case "read3": return random.nextInt(7);
                case "letter1": return random.nextInt(7);
                case "round2": case "fault0": return random.nextInt(10) == 0 ? 3 : random.nextInt(3);
                case "plan0": return random.nextInt(4);
                case "plan1": return random.nextInt(15) == 0 ? 2 : random.nextInt(2);
                case "measure0": return random.nextInt(1 << 30) & random.nextInt(1 << 30);
                case "give1": return 1 << random.nextInt(8) | (random.nextBoolean() ? 1 << random.nextInt(8) : 0);
                case "give0": case "write0": case "write1": return pick(model.names.size());
                case "count0": return random.nextInt(15);
                case "ends0": case "ends2": return random.nextInt(1_000_001) >> random.nextInt(20);
                case "ends1": case "ends3": return random.nextInt(1_001) >> random.nextInt(10);
                case "minutes0": return random.nextInt(6) == 0 ? random.nextInt(202) : random.nextInt(10);
                case "end0": return random.nextInt(20) == 0 ? model.tape.length() + 1 : random.nextInt(model.tape.length() + 1);
                case "write3": return random.nextInt(22);
                case "rules2": return model.now + random.nextInt(4);
                case "bars0": case "harm0": case "off0": return pick(model.lists);
                default: break;
            }
            String first = METHODS.get(name).getParameterCount() > 0 && i == 0 ? name : "";
            boolean isLetter = List.of("weight", "decides", "moved", "round", "read", "words", "unlike", "letter", "why", "mark",
                "path", "falsely").contains(first);
            return isLetter ? pick(letters) : pick(model.houses.size());
        }

        private void tape(String text) throws Exception {
            if (!model.tape.isEmpty() && random.nextInt(12) > 0) {
                call("end", 0);
            }
            int at = 0;
            while (at < text.length()) {
                Object[] row = new Object[5];
                for (int i = 0; i < 5; i++) {
                    int number = 0;
                    for (int k = 0; k < 4; k++) {
                        boolean gap = at >= text.length() || random.nextInt(40) == 0;
                        number = number << 8 | (gap ? 0 : text.charAt(at++));
                    }
                    row[i] = number;
                }
                call("feed", row);
            }
        }

        private String word() {
            return VOCABULARY[random.nextInt(VOCABULARY.length)];
        }

        private String letterText(int deep) {
            StringBuilder text = new StringBuilder();
            int parts = random.nextInt(3) == 0 ? 2 : 1;
            for (int i = 0; i < parts; i++) {
                text.append(i > 0 ? ";" : "");
                int sort = random.nextInt(4);
                if (sort == 0 && deep > 0) {
                    text.append("m{").append(letterText(deep - 1)).append("}");
                } else {
                    text.append(sort == 1 ? "q" : "p");
                    int words = random.nextInt(4);
                    for (int k = 0; k < words; k++) {
                        text.append(k > 0 ? " " : "").append(sort == 1 ? coded(word()) : word());
                    }
                }
            }
            return text.toString();
        }

        private String coded(String word) {
            StringBuilder text = new StringBuilder();
            for (char c : word.toCharArray()) {
                text.append(random.nextInt(4) == 0 ? "=" + Integer.toHexString(c) : String.valueOf(c));
            }
            if (random.nextInt(6) == 0) {
                text.append("=").append("0123456789abcdef".charAt(random.nextInt(16))).append("0123456789abcdef".charAt(random.nextInt(16)));
            }
            return text.toString();
        }

        private String rulesText() {
            StringBuilder text = new StringBuilder();
            int clauses = 1 + random.nextInt(4);
            for (int i = 0; i < clauses; i++) {
                text.append(i > 0 ? ";" : "").append("ttbbdddxxxx".charAt(random.nextInt(11))).append(':');
                if (random.nextInt(3) > 0) {
                    text.append(condition(3)).append('?');
                }
                text.append(sum(2));
            }
            if (random.nextInt(5) > 0) {
                return text.toString();
            }
            StringBuilder blanks = new StringBuilder();
            for (int i = 0; i < text.length(); i++) {
                boolean inNumber = i > 0 && Character.isDigit(text.charAt(i)) && Character.isDigit(text.charAt(i - 1));
                blanks.append(!inNumber && random.nextInt(4) == 0 ? " " : "").append(text.charAt(i));
            }
            return blanks.toString();
        }

        private String condition(int deep) {
            String text = unit(deep);
            int more = random.nextInt(3);
            for (int i = 0; i < more && deep > 1; i++) {
                text += (random.nextBoolean() ? "|" : "&") + unit(deep);
            }
            return text;
        }

        private String unit(int deep) {
            int sort = random.nextInt(6);
            if (sort == 0 && deep > 0) {
                return "!" + unit(deep - 1);
            }
            if (sort == 1 && deep > 0) {
                return "(" + condition(deep - 1) + ")";
            }
            return sum(1) + "=<>".charAt(random.nextInt(3)) + sum(1);
        }

        private String sum(int deep) {
            String text = atom(deep);
            while (random.nextInt(3) == 0) {
                text += "+-*/".charAt(random.nextInt(4)) + atom(deep);
            }
            return text;
        }

        private String atom(int deep) {
            int sort = random.nextInt(9);
            if (sort == 0 && deep > 0) {
                return "[" + sum(deep - 1) + "]";
            }
            if (sort < 5) {
                return String.valueOf("wlsknauhrmyo".charAt(random.nextInt(12)));
            }
            return String.valueOf(random.nextInt(sort == 5 ? 10_000 : 4));
        }

        private String mutated(String text, int oneIn) {
            if (text.length() > 160) {
                text = text.substring(0, 160);
            }
            if (random.nextInt(oneIn) > 0) {
                return text;
            }
            StringBuilder changed = new StringBuilder(text);
            String signs = "pqm{};= az09tbdx:?!()[]|&<>+-*/w1(![{" + (char) 200 + "A" + (char) 1;
            int times = 1 + random.nextInt(2);
            for (int i = 0; i < times; i++) {
                int at = random.nextInt(changed.length() + 1);
                char sign = signs.charAt(random.nextInt(signs.length()));
                switch (random.nextInt(4)) {
                    case 0: changed.setLength(at); break;
                    case 1: changed.insert(at, sign); break;
                    case 2: if (at < changed.length()) changed.deleteCharAt(at); break;
                    default: if (at < changed.length()) changed.setCharAt(at, sign); break;
                }
            }
            return changed.toString();
        }

        private void call(String name, Object... args) throws Exception {
            if (calls >= 512) {
                return;
            }
            calls++;
            Method method = METHODS.get(name);
            Object got = method.invoke(real, args);
            Object want = Model.class.getDeclaredMethod(name, method.getParameterTypes()).invoke(model, args);
            trace.append("x.").append(name).append(Arrays.toString(args)).append(" = ").append(got).append('\n');
            boolean refused = got.equals(-1) || got.equals(-2) || got.equals(-1_000_000) || got.equals(false);
            seen.computeIfAbsent(name, k -> new int[2])[refused ? 1 : 0]++;
            if (!got.equals(want)) {
                System.out.print(trace);
                System.out.println("seed " + seed + ": the class says " + got + ", the model " + want + ", tape '" + model.tape + "'");
                System.exit(1);
            }
        }
    }

    /** Which texts can still become one of the grammar: all ways of reading are followed at once. */
    private static final class Grammar {
        private final Map<String, List<List<String>>> rules = new HashMap<>();

        void rule(String name, String... ways) {
            List<List<String>> all = new ArrayList<>();
            for (String way : ways) {
                all.add(way.isEmpty() ? List.of() : List.of(way.split(" ")));
            }
            rules.computeIfAbsent(name, k -> new ArrayList<>()).addAll(all);
        }

        void any(String name, String signs) {
            for (char c : signs.toCharArray()) {
                rules.computeIfAbsent(name, k -> new ArrayList<>()).add(List.of(c == ' ' ? "blank" : String.valueOf(c)));
            }
        }

        int fault(String text) {
            Set<Stack> ways = new HashSet<>(Set.of(stack("Start", end)));
            for (int i = 0; i < text.length(); i++) {
                String sign = text.charAt(i) == ' ' ? "blank" : String.valueOf(text.charAt(i));
                Set<Stack> next = new HashSet<>();
                for (Stack way : ways) {
                    for (Stack one : ready(way)) {
                        if (one.head.equals(sign)) {
                            next.add(one.tail);
                        }
                    }
                }
                if (next.isEmpty()) {
                    return i;
                }
                ways = next;
            }
            for (Stack way : ways) {
                if (ready(way).contains(end)) {
                    return -1;
                }
            }
            return text.length();
        }

        /** What is still to be read; there is one object for each. */
        private static final class Stack {
            final String head;
            final Stack tail;
            final Map<String, Stack> longer = new HashMap<>();
            Set<Stack> ready;

            Stack(String head, Stack tail) {
                this.head = head;
                this.tail = tail;
            }
        }

        private final Stack end = new Stack("", null);

        private Stack stack(String head, Stack tail) {
            return tail.longer.computeIfAbsent(head, k -> new Stack(k, tail));
        }

        /** All that this can become with a sign at its head, or the end. */
        private Set<Stack> ready(Stack way) {
            if (way.ready == null) {
                Set<Stack> all = new HashSet<>();
                if (!rules.containsKey(way.head)) {
                    all.add(way);
                } else {
                    for (List<String> body : rules.get(way.head)) {
                        Stack grown = way.tail;
                        for (int i = body.size() - 1; i >= 0; i--) {
                            grown = stack(body.get(i), grown);
                        }
                        all.addAll(ready(grown));
                    }
                }
                way.ready = all;
            }
            return way.ready;
        }

        static Grammar ofLetters() {
            Grammar g = new Grammar();
            g.any("Sign", "abcdefghijklmnopqrstuvwxyz0123456789 ");
            g.any("Hex", "0123456789abcdef");
            g.rule("Plain", "", "Sign Plain");
            g.rule("Coded", "", "Sign Coded", "= Hex Hex Coded");
            g.rule("Start", "Parts0");
            for (int d = 0; d <= 5; d++) {
                g.rule("Parts" + d, "Part" + d + " MoreParts" + d);
                g.rule("MoreParts" + d, "", "; Part" + d + " MoreParts" + d);
                g.rule("Part" + d, "p Plain", "q Coded");
                // The sixth { is the fault, not the m ahead of it.
                g.rule("Part" + d, d < 5 ? "m { Parts" + (d + 1) + " }" : "m never");
            }
            return g;
        }

        static Grammar ofRules() {
            Grammar g = new Grammar();
            g.rule("B", "", "blank B");
            g.rule("Start", "Clauses");
            g.rule("Clauses", "Clause MoreClauses");
            g.rule("MoreClauses", "", "B ; B Clause MoreClauses");
            g.any("Label", "tbdx");
            g.rule("Clause", "Label B : B Sum0", "Label B : B Cond0 B ? B Sum0");
            g.any("Digit", "0123456789");
            g.any("Than", "=<>");
            g.any("Plus", "+-");
            g.any("Times", "*/");
            g.any("Name", "wlsknauhrmyo");
            for (int d = 0; d <= 6; d++) {
                String n = String.valueOf(d);
                g.rule("Cond" + n, "Truth" + n + " MoreCond" + n);
                g.rule("MoreCond" + n, "", "B | B Truth" + n + " MoreCond" + n);
                g.rule("Truth" + n, "Unit" + n + " MoreTruth" + n);
                g.rule("MoreTruth" + n, "", "B & B Unit" + n + " MoreTruth" + n);
                g.rule("Unit" + n, "Sum" + n + " B Than B Sum" + n);
                g.rule("Sum" + n, "Term" + n + " MoreSum" + n);
                g.rule("MoreSum" + n, "", "B Plus B Term" + n + " MoreSum" + n);
                g.rule("Term" + n, "Atom" + n + " MoreTerm" + n);
                g.rule("MoreTerm" + n, "", "B Times B Atom" + n + " MoreTerm" + n);
                g.rule("Atom" + n, "Name", "Digit", "Digit Digit", "Digit Digit Digit", "Digit Digit Digit Digit");
                if (d < 6) {
                    g.rule("Unit" + n, "! B Unit" + (d + 1), "( B Cond" + (d + 1) + " B )");
                    g.rule("Atom" + n, "[ B Sum" + (d + 1) + " B ]");
                }
            }
            return g;
        }
    }

    /** The document, as slowly and plainly as can be. */
    static final class Model {
        private static final Grammar LETTERS = Grammar.ofLetters();
        private static final Grammar RULES = Grammar.ofRules();

        static final class House { boolean up = true; final Set<Integer> roads = new HashSet<>(); }
        static final class Name { int house; boolean trap; int shops; }
        static final class Law { int of; boolean list; int told; int from; String text; }
        static final class Off { int list; int house; int minute; }
        static final class Mark { int letter; int minute; boolean good; }
        static final class Post {
            int number; int from; int to; boolean signed; int stamp; int minute; int state; int tries; int due; int why = -1;
            List<String> plain; List<String> full; final List<int[]> path = new ArrayList<>();
        }

        int now;
        int lists;
        String tape = "";
        final List<House> houses = new ArrayList<>();
        final List<Name> names = new ArrayList<>();
        final List<Law> laws = new ArrayList<>();
        final List<Off> offs = new ArrayList<>();
        final List<Mark> marks = new ArrayList<>();
        final List<Post> letters = new ArrayList<>();
        final List<String[]> swaps = new ArrayList<>();
        final List<Integer> measures = new ArrayList<>();

        private static boolean in(int x, int low, int high) { return x >= low && x <= high; }
        private static boolean has(int x, List<?> all) { return x >= 0 && x < all.size(); }

        public int house() {
            if (houses.size() == 12) return -1;
            houses.add(new House());
            return houses.size() - 1;
        }
        public boolean up(int house, boolean is) {
            if (!has(house, houses) || houses.get(house).up == is) return false;
            houses.get(house).up = is;
            return true;
        }
        public boolean road(int one, int other) {
            if (!has(one, houses) || !has(other, houses) || one == other) return false;
            houses.get(other).roads.add(one);
            return houses.get(one).roads.add(other);
        }
        public int name(int house, boolean trap) {
            if (!has(house, houses) || names.size() == 40) return -1;
            Name n = new Name();
            n.house = house;
            n.trap = trap;
            names.add(n);
            return names.size() - 1;
        }
        public int feed(int a, int b, int c, int d, int e) {
            StringBuilder s = new StringBuilder(tape);
            for (int x : new int[] {a, b, c, d, e}) {
                for (byte y : java.nio.ByteBuffer.allocate(4).putInt(x).array()) {
                    if (y != 0) s.append((char) (y & 0xff));
                }
            }
            if (s.length() > 160) return -1;
            tape = s.toString();
            return tape.length();
        }
        public boolean end(int n) {
            if (!in(n, 0, tape.length())) return false;
            tape = tape.substring(0, n);
            return true;
        }
        public int fault(int sort) {
            return sort == 0 ? LETTERS.fault(tape) : sort == 1 ? RULES.fault(tape) : -2;
        }
        public int rules(int of, boolean list, int from) {
            if (list ? !in(of, 0, lists - 1) : !has(of, houses)) return -1;
            if (!in(from, now, 2000) || laws.size() == 20 || RULES.fault(tape) != -1) return -1;
            Law law = new Law();
            law.of = of;
            law.list = list;
            law.told = now;
            law.from = from;
            law.text = tape.replace(" ", "");
            laws.add(law);
            tape = "";
            return laws.size() - 1;
        }
        public int force(int of, boolean list, int minute, int q) {
            if (!in(minute, 0, 2000) || !in(q, 0, now)) return -1;
            int found = -1;
            for (int i = 0; i < laws.size(); i++) {
                Law l = laws.get(i);
                if (l.of == of && l.list == list && l.told <= q && l.from <= minute) {
                    if (found < 0 || l.from >= laws.get(found).from) found = i;
                }
            }
            return found;
        }
        public int list() { return lists == 4 ? -1 : lists++; }
        public boolean off(int list, int house) {
            if (!in(list, 0, lists - 1) || !has(house, houses) || offs.size() == 100) return false;
            Off o = new Off();
            o.list = list;
            o.house = house;
            o.minute = now;
            offs.add(o);
            return true;
        }
        public int bars(int list, int house, int minute, int q) {
            if (!in(list, 0, lists - 1) || !has(house, houses) || !in(minute, 0, now) || !in(q, 0, now)) return -1;
            int law = force(list, true, minute, q);
            if (law < 0) return 0;
            Map<Character, Integer> v = new HashMap<>();
            int r = 0;
            int m = 0;
            int y = 0;
            for (Post l : letters) {
                if (names.get(l.from).house != house || l.minute > minute || l.minute > q) continue;
                m++;
                if (names.get(l.to).trap) r++;
            }
            for (int one : known(q).keySet()) {
                boolean counts = names.get(letters.get(one).from).house == house && letters.get(one).minute <= minute;
                if (counts && !known(q).get(one)) y++;
            }
            int o = 9999;
            for (Off one : offs) {
                if (one.list == list && one.house == house && one.minute <= minute && one.minute <= q) o = minute - one.minute;
            }
            v.put('r', r);
            v.put('m', m);
            v.put('y', y);
            v.put('o', o);
            v.put('h', house);
            return worth(laws.get(law).text, 'x', v)[0] != 0 ? 1 : 0;
        }
        public int harm(int list) {
            if (!in(list, 0, lists - 1)) return -1;
            int n = 0;
            for (Map.Entry<Integer, Boolean> one : known(now).entrySet()) {
                if (one.getValue() && bars(list, names.get(letters.get(one.getKey()).from).house, now, now) == 1) n++;
            }
            return n;
        }

        // ---- rules, worked out on their text

        static int[] worth(String text, char label, Map<Character, Integer> v) {
            String[] clauses = text.split(";");
            for (int i = 0; i < clauses.length; i++) {
                String body = clauses[i].substring(2);
                int mark = body.indexOf('?');
                if (clauses[i].charAt(0) == label && (mark < 0 || truth(body.substring(0, mark), v))) {
                    return new int[] {sum(body.substring(mark + 1), v), i};
                }
            }
            return new int[] {0, -1};
        }

        /** Where the last one of these signs stands outside all brackets, or -1. */
        private static int last(String s, String signs) {
            int deep = 0;
            for (int i = s.length() - 1; i >= 0; i--) {
                char c = s.charAt(i);
                if (c == ')' || c == ']') deep++;
                if (c == '(' || c == '[') deep--;
                if (deep == 0 && signs.indexOf(c) >= 0) return i;
            }
            return -1;
        }

        private static boolean truth(String s, Map<Character, Integer> v) {
            int at = last(s, "|");
            if (at >= 0) return truth(s.substring(0, at), v) || truth(s.substring(at + 1), v);
            at = last(s, "&");
            if (at >= 0) return truth(s.substring(0, at), v) && truth(s.substring(at + 1), v);
            if (s.startsWith("!")) return !truth(s.substring(1), v);
            if (s.startsWith("(")) return truth(s.substring(1, s.length() - 1), v);
            at = last(s, "=<>");
            int one = sum(s.substring(0, at), v);
            int other = sum(s.substring(at + 1), v);
            return s.charAt(at) == '=' ? one == other : s.charAt(at) == '<' ? one < other : one > other;
        }

        private static int sum(String s, Map<Character, Integer> v) {
            int at = last(s, "+-");
            if (at < 0) at = last(s, "*/");
            if (at >= 0) {
                long a = sum(s.substring(0, at), v);
                long b = sum(s.substring(at + 1), v);
                char c = s.charAt(at);
                long x = c == '+' ? a + b : c == '-' ? a - b : c == '*' ? a * b : b == 0 ? 0 : a / b;
                return (int) (x > 1_000_000 ? 1_000_000 : x < -1_000_000 ? -1_000_000 : x);
            }
            if (s.startsWith("[")) return sum(s.substring(1, s.length() - 1), v);
            return Character.isDigit(s.charAt(0)) ? Integer.parseInt(s) : v.getOrDefault(s.charAt(0), 0);
        }

        // ---- letters

        private static List<String> seen(String text, boolean full) {
            StringBuilder all = new StringBuilder();
            for (String part : text.replace("m{", "").replace("}", "").split(";")) {
                String bytes = part.substring(1);
                if (full && part.charAt(0) == 'q') {
                    StringBuilder decoded = new StringBuilder();
                    for (int i = 0; i < bytes.length(); i++) {
                        if (bytes.charAt(i) == '=') {
                            decoded.append((char) Integer.parseInt(bytes.substring(i + 1, i + 3), 16));
                            i += 2;
                        } else {
                            decoded.append(bytes.charAt(i));
                        }
                    }
                    bytes = decoded.toString();
                }
                if (full) bytes = bytes.replace('0', 'o').replace('1', 'l').replace('3', 'e').replace('5', 's');
                all.append(bytes).append(' ');
            }
            List<String> words = new ArrayList<>();
            for (String word : all.toString().split("[^a-z0-9]+")) {
                if (!word.isEmpty()) words.add(word.length() > 12 ? word.substring(0, 12) : word);
            }
            return words;
        }
        public int write(int from, int to, boolean signed, int stamp) {
            if (!has(from, names) || !has(to, names) || from == to || !in(stamp, 0, 20)) return -1;
            if (letters.size() == 120 || LETTERS.fault(tape) != -1) return -1;
            Post p = new Post();
            p.number = letters.size();
            p.from = from;
            p.to = to;
            p.signed = signed;
            p.stamp = stamp;
            p.minute = now;
            p.due = now + 1;
            p.plain = seen(tape, false);
            p.full = seen(tape, true);
            letters.add(p);
            tape = "";
            return p.number;
        }
        public int words(int letter, int reader) {
            if (!has(letter, letters) || !in(reader, 0, 1)) return -1;
            return (reader == 0 ? letters.get(letter).plain : letters.get(letter).full).size();
        }
        public int read(int letter, int reader, int i, int k) {
            if (!has(letter, letters) || !in(reader, 0, 1)) return -1;
            List<String> row = reader == 0 ? letters.get(letter).plain : letters.get(letter).full;
            return !has(i, row) || !in(k, 0, row.get(i).length() - 1) ? -1 : row.get(i).charAt(k);
        }
        public int unlike(int letter) {
            if (!has(letter, letters)) return -1;
            Post p = letters.get(letter);
            if (p.plain.equals(p.full)) return -1;
            int i = 0;
            while (i < p.plain.size() && i < p.full.size() && p.plain.get(i).equals(p.full.get(i))) i++;
            return i;
        }
        public int letter(int letter, int what) {
            if (!has(letter, letters) || !in(what, 0, 5)) return -1;
            Post p = letters.get(letter);
            return new int[] {p.state, p.tries, p.state == 0 || p.state == 4 ? p.due : -1, p.minute, p.from, p.to}[what];
        }
        public int why(int letter) { return has(letter, letters) ? letters.get(letter).why : -1; }
        private boolean asked(Post p) {
            for (Post one : letters) {
                if (one.number < p.number && one.from == p.to && one.to == p.from) return true;
            }
            return false;
        }
        public int minutes(int n) {
            if (!in(n, 0, 200) || now + n > 2000) return -1;
            for (int i = 0; i < n; i++) {
                now++;
                for (Post p : letters) {
                    if ((p.state == 0 || p.state == 4) && p.due <= now) look(p);
                }
            }
            return now;
        }
        private void look(Post p) {
            int home = names.get(p.to).house;
            int away = names.get(p.from).house;
            if (!houses.get(home).up) {
                p.tries++;
                p.state = p.tries == 8 ? 5 : 4;
                p.due = now + 10;
                return;
            }
            int law = force(home, false, now, now);
            p.why = -1;
            p.state = 1;
            if (law < 0) return;
            Map<Character, Integer> v = new HashMap<>();
            v.put('w', weight(p.number, now));
            int l = 0;
            for (int i = 0; i < lists; i++) l += bars(i, away, now, now);
            v.put('l', l);
            v.put('s', p.signed ? 1 : 0);
            v.put('k', p.stamp);
            v.put('n', p.tries);
            v.put('a', now - p.minute);
            v.put('u', asked(p) ? 1 : 0);
            v.put('h', away);
            String text = laws.get(law).text;
            int[] t = worth(text, 't', v);
            int[] b = worth(text, 'b', v);
            int[] d = worth(text, 'd', v);
            if (t[0] != 0) {
                p.state = 2;
                p.why = t[1];
            } else if (b[0] != 0) {
                p.state = 3;
                p.why = b[1];
            } else if (d[0] > 0) {
                p.tries++;
                p.state = p.tries == 8 ? 3 : 4;
                p.due = now + Math.min(500, d[0]);
                p.why = d[1];
            }
        }

        // ---- marks

        public boolean mark(int letter, boolean good) {
            if (!has(letter, letters) || marks.size() == 200) return false;
            Mark m = new Mark();
            m.letter = letter;
            m.minute = now;
            m.good = good;
            marks.add(m);
            return true;
        }
        private Map<Integer, Boolean> known(int q) {
            Map<Integer, Boolean> all = new TreeMap<>();
            for (Mark m : marks) {
                if (m.minute <= q) all.put(m.letter, m.good);
            }
            return all;
        }
        /** The deciding words, each with its v, the greatest first. */
        private Map<String, Integer> deciding(List<String> row, Map<Integer, Boolean> known) {
            int goods = Collections.frequency(known.values(), true);
            int bads = Collections.frequency(known.values(), false);
            Map<String, Integer> v = new LinkedHashMap<>();
            if (goods == 0 || bads == 0) return v;
            for (String word : new LinkedHashSet<>(row)) {
                int g = 0;
                int b = 0;
                for (int one : known.keySet()) {
                    if (letters.get(one).full.contains(word)) {
                        if (known.get(one)) g++;
                        else b++;
                    }
                }
                if (g + b > 0) v.put(word, 1000 * (b * goods - g * bads) / (b * goods + g * bads));
            }
            List<String> order = new ArrayList<>(v.keySet());
            order.sort(Comparator.comparingInt(word -> -Math.abs(v.get(word))));
            Map<String, Integer> five = new LinkedHashMap<>();
            for (String word : order.subList(0, Math.min(5, order.size()))) five.put(word, v.get(word));
            return five;
        }
        private int weigh(List<String> row, Map<Integer, Boolean> known) {
            return deciding(row, known).values().stream().mapToInt(x -> x).sum();
        }
        public int weight(int letter, int q) {
            if (!has(letter, letters) || !in(q, 0, now) || letters.get(letter).minute > q) return -1_000_000;
            return weigh(letters.get(letter).full, known(q));
        }
        public int decides(int letter, int q, int i) {
            if (!has(letter, letters) || !in(q, 0, now) || letters.get(letter).minute > q) return -1;
            List<String> five = new ArrayList<>(deciding(letters.get(letter).full, known(q)).keySet());
            return i == -1 ? five.size() : has(i, five) ? letters.get(letter).full.indexOf(five.get(i)) : -1;
        }
        public int moved(int letter, boolean good) {
            if (!has(letter, letters)) return -1_000_000;
            Map<Integer, Boolean> other = known(now);
            other.put(letter, good);
            return weigh(letters.get(letter).full, other) - weight(letter, now);
        }
        public int lose(int line, int q, int what) {
            if (!in(q, 0, now) || !in(what, 0, 1)) return -1;
            Map<Integer, Boolean> known = known(q);
            int n = 0;
            for (int one : known.keySet()) {
                boolean above = weigh(letters.get(one).full, known) > line;
                if (what == 0 ? known.get(one) && above : !known.get(one) && !above) n++;
            }
            return n;
        }
        public int best(int q) {
            if (!in(q, 0, now)) return -1_000_000;
            Map<Integer, Boolean> known = known(q);
            Set<Integer> lines = new TreeSet<>();
            for (int one : known.keySet()) lines.add(weigh(letters.get(one).full, known));
            int best = -1_000_000;
            int least = Integer.MAX_VALUE;
            for (int line : lines) {
                int cost = lose(line, q, 1) + 5 * lose(line, q, 0);
                if (cost < least) {
                    least = cost;
                    best = line;
                }
            }
            return best;
        }
        public int path(int letter, int house, int minute) {
            if (!has(letter, letters) || !has(house, houses) || !in(minute, 0, 2000)) return -1;
            List<int[]> path = letters.get(letter).path;
            if (path.size() == 6) return -1;
            path.add(new int[] {house, minute});
            return path.size();
        }
        public int falsely(int letter) {
            if (!has(letter, letters) || letters.get(letter).path.isEmpty()) return -1;
            List<int[]> path = letters.get(letter).path;
            for (int i = 1; i < path.size(); i++) {
                int[] a = path.get(i - 1);
                int[] b = path.get(i);
                if (a[0] == b[0] || !houses.get(a[0]).roads.contains(b[0]) || b[1] < a[1]) return i;
            }
            return path.get(path.size() - 1)[0] == names.get(letters.get(letter).to).house ? -1 : path.size();
        }
        public boolean give(int name, int shops) {
            if (!has(name, names) || !in(shops, 0, 255)) return false;
            names.get(name).shops |= shops;
            return true;
        }
        private static List<Integer> members(int set) {
            List<Integer> all = new ArrayList<>();
            for (int i = 0; i < 31; i++) {
                if ((set & 1 << i) != 0) all.add(i);
            }
            return all;
        }
        /** The fewest, then the lower one where two first differ; all that are as few. */
        private static List<Integer> fewest(int sorts, IntPredicate fits) {
            List<Integer> sets = new ArrayList<>();
            for (int set = 0; set < 1 << sorts; set++) {
                if (fits.test(set)) sets.add(set);
            }
            sets.sort((one, other) -> {
                List<Integer> a = members(one);
                List<Integer> b = members(other);
                if (a.size() != b.size()) return a.size() - b.size();
                for (int i = 0; i < a.size(); i++) {
                    if (!a.get(i).equals(b.get(i))) return a.get(i) - b.get(i);
                }
                return 0;
            });
            sets.removeIf(set -> Integer.bitCount(set) > Integer.bitCount(sets.get(0)));
            return sets;
        }
        public int spread(int house) {
            if (!has(house, houses)) return -1;
            Set<Integer> got = new HashSet<>();
            for (Post p : letters) {
                if (names.get(p.from).house == house && !asked(p)) got.add(p.to);
            }
            List<Integer> sets = fewest(8, set -> {
                for (int one : got) {
                    if ((names.get(one).shops & set) == 0) return false;
                }
                return true;
            });
            return sets.isEmpty() ? -1 : sets.get(0);
        }
        public int swap() {
            if (!tape.matches("[a-z0-9]{1,12} [a-z0-9]{1,12}") || swaps.size() == 8) return -1;
            swaps.add(tape.split(" "));
            tape = "";
            return swaps.size() - 1;
        }
        public int round(int letter, int line, int what) {
            if (!has(letter, letters) || !in(what, 0, 2)) return -1;
            Map<Integer, Boolean> known = known(now);
            List<Integer> sets = fewest(swaps.size(), set -> {
                List<String> row = new ArrayList<>();
                for (String word : letters.get(letter).full) {
                    String put = word;
                    for (int i : members(set)) {
                        if (swaps.get(i)[0].equals(word)) {
                            put = swaps.get(i)[1];
                            break;
                        }
                    }
                    row.add(put);
                }
                return weigh(row, known) <= line;
            });
            if (sets.isEmpty()) return -1;
            return what == 0 ? Integer.bitCount(sets.get(0)) : what == 1 ? sets.size() : sets.get(0);
        }
        public int ends(int letters, int price, int answers, int gain) {
            if (!in(letters, 0, 1_000_000) || !in(answers, 0, 1_000_000) || !in(price, 0, 1000) || !in(gain, 0, 1000)) return -1;
            double cost = (double) letters * price;
            for (int k = 0; k <= 20; k++) {
                if (cost > (double) answers * gain) return k;
                cost *= 2;
            }
            return -1;
        }
        public int hands(int q) {
            if (!in(q, 0, now)) return -1;
            Map<List<String>, Set<Integer>> rows = new HashMap<>();
            for (Post p : letters) {
                if (p.minute <= q) rows.computeIfAbsent(p.full, k -> new HashSet<>()).add(names.get(p.from).house);
            }
            List<Set<Integer>> hands = new ArrayList<>();
            for (Set<Integer> one : rows.values()) {
                Set<Integer> all = new HashSet<>(one);
                for (Set<Integer> hand : new ArrayList<>(hands)) {
                    if (!Collections.disjoint(hand, one)) {
                        all.addAll(hand);
                        hands.remove(hand);
                    }
                }
                hands.add(all);
            }
            return hands.size();
        }
        public int measure(int letters) {
            if (!in(letters, 0, (1 << 30) - 1) || measures.size() == 8) return -1;
            measures.add(letters);
            return measures.size() - 1;
        }
        private int stops(int set, boolean good) {
            int n = 0;
            for (Map.Entry<Integer, Boolean> one : known(now).entrySet()) {
                boolean stopped = false;
                for (int i : members(set)) {
                    if (one.getKey() < 30 && (measures.get(i) >> one.getKey() & 1) == 1) stopped = true;
                }
                if (stopped && one.getValue() == good) n++;
            }
            return n;
        }
        public int plan(int good, int what) {
            if (!in(good, 0, 30) || !in(what, 0, 1)) return -1;
            int most = 0;
            for (int set = 0; set < 1 << measures.size(); set++) {
                if (stops(set, true) <= good) most = Math.max(most, stops(set, false));
            }
            int best = most;
            int chosen = fewest(measures.size(), set -> stops(set, true) <= good && stops(set, false) == best).get(0);
            return what == 0 ? chosen : most;
        }
        public int count(int what) {
            int[] in = new int[6];
            for (Post p : letters) in[p.state]++;
            int[] all = {now, houses.size(), names.size(), letters.size(), in[1], in[2], in[3], in[5], laws.size(), lists,
                marks.size(), swaps.size(), measures.size(), tape.length()};
            return in(what, 0, 13) ? all[what] : -1;
        }
    }
}
