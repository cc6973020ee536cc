import java.util.ArrayList;
import java.util.Arrays;
import java.util.HashMap;
import java.util.HashSet;
import java.util.List;
import java.util.Map;
import java.util.Set;
import java.util.TreeMap;
import java.util.function.Predicate;
import java.util.function.ToLongFunction;

/** The document once more, written another way (trees, lists, exceptions, plain search), to compare with. */
final class Model {
    static final int NONE = -1;
    static final Set<String> OWN = new HashSet<>(Arrays.asList(("museum keeps thing worth hangs gang at rota wants sees draws may"
            + " hung night has gone if or and not all min max visitor quarrel").split(" ")));

    static final class Fault extends Exception {
        private static final long serialVersionUID = 1L;
        final int kind;
        final int place;

        Fault(int kind, int place) {
            super(null, null, false, false);
            this.kind = kind;
            this.place = place;
        }
    }

    /** What SUM and TEST look at. */
    record View(long worth, long wants, long hung, long hangs, long night, long has, long gone) {
    }

    record Thing(String name, int worth, int hangs) {
    }

    record Gang(String name, int place) {
    }

    record Visitor(String name, List<Integer> sees) {
    }

    record Kept(int night, int gang, int thing) {
    }

    static final class Town {
        int place;
        int keeps;
        int statements;
        int quarrel;
        final List<Thing> things = new ArrayList<>();
        final List<Gang> gangs = new ArrayList<>();
        final List<Visitor> visitors = new ArrayList<>();
        List<Integer> rota = new ArrayList<>();
        final Map<Integer, Integer> wants = new HashMap<>();
        ToLongFunction<View> draws;
        Predicate<View> may;

        int wanted(int g, int t) {
            return wants.getOrDefault(g * 100 + t, 0);
        }
    }

    static final class State {
        int night;
        int[] where;
        int[] since;
        List<Kept> kept = new ArrayList<>();

        State copy() {
            State s = new State();
            s.night = night;
            s.where = where.clone();
            s.since = since.clone();
            s.kept = new ArrayList<>(kept);
            return s;
        }
    }

    // ---- the text: all tokens are cut first, those that can't be held as such

    record Token(char kind, int start, String text) {
    }

    static final class Parser {
        final String text;
        final List<Token> tokens = new ArrayList<>();
        int at = 0;
        int open = 0;
        Town town = new Town();

        Parser(String text) {
            this.text = text;
            int i = 0;
            while (i < text.length()) {
                char c = text.charAt(i);
                if (c == ' ' || c == '\n') {
                    i++;
                    continue;
                }
                String run = "" + c;
                char kind = 's';
                if (c >= 'a' && c <= 'z') {
                    run = text.substring(i).split("[^a-z]", 2)[0];
                    kind = OWN.contains(run) ? 'o' : run.length() > 6 ? 'l' : 'n';
                    if (i > 0 && Character.toString(text.charAt(i - 1)).matches("[0-9]")) {
                        kind = 'g';
                    }
                } else if (c >= '0' && c <= '9') {
                    run = text.substring(i).split("[^0-9]", 2)[0];
                    kind = run.length() > 4 ? 'd' : '9';
                    if (i > 0 && Character.toString(text.charAt(i - 1)).matches("[a-z]")) {
                        kind = 'g';
                    }
                }
                tokens.add(new Token(kind, i, run));
                i += run.length();
            }
            tokens.add(new Token('e', text.length(), ""));
        }

        Token raw() {
            return tokens.get(at);
        }

        Token peek() throws Fault {
            Token t = raw();
            if (t.kind == 'l') {
                throw new Fault(1, t.start + 6);
            }
            if (t.kind == 'd') {
                throw new Fault(1, t.start + 4);
            }
            if (t.kind == 'g') {
                throw new Fault(1, t.start);
            }
            return t;
        }

        boolean is(String s) throws Fault {
            Token t = peek();
            return (t.kind == 'o' || t.kind == 's') && t.text.equals(s);
        }

        void must(String s) throws Fault {
            if (!is(s)) {
                throw new Fault(1, raw().start);
            }
            at++;
        }

        int number(int low, int high) throws Fault {
            Token t = peek();
            if (t.kind != '9') {
                throw new Fault(1, t.start);
            }
            int n = Integer.parseInt(t.text);
            if (n < low || n > high) {
                throw new Fault(4, t.start);
            }
            at++;
            return n;
        }

        String name() throws Fault {
            Token t = peek();
            if (t.kind != 'n') {
                throw new Fault(1, t.start);
            }
            return t.text;
        }

        String fresh() throws Fault {
            String n = name();
            boolean known = town.things.stream().anyMatch(x -> x.name.equals(n)) || town.gangs.stream().anyMatch(x -> x.name.equals(n))
                    || town.visitors.stream().anyMatch(x -> x.name.equals(n));
            if (known) {
                throw new Fault(2, raw().start);
            }
            at++;
            return n;
        }

        int thing() throws Fault {
            String n = name();
            for (int i = 0; i < town.things.size(); i++) {
                if (town.things.get(i).name.equals(n)) {
                    return i;
                }
            }
            throw new Fault(3, raw().start);
        }

        int gang() throws Fault {
            String n = name();
            for (int i = 0; i < town.gangs.size(); i++) {
                if (town.gangs.get(i).name.equals(n)) {
                    return i;
                }
            }
            throw new Fault(3, raw().start);
        }

        Town parse() throws Fault {
            Map<String, Integer> many = new TreeMap<>();
            Map<String, Integer> most = Map.of("thing", 8, "gang", 6, "visitor", 6, "rota", 1, "draws", 1, "may", 1);
            if (raw().kind == 'e') {
                throw new Fault(1, text.length());
            }
            while (raw().kind != 'e') {
                if (town.statements == 80) {
                    throw new Fault(6, raw().start);
                }
                Token t = peek();
                boolean begins = t.kind == 'o' && Set.of("museum", "thing", "gang", "rota", "wants", "visitor", "draws", "may", "quarrel")
                        .contains(t.text);
                if (!begins || t.text.equals("museum") != (town.statements == 0)) {
                    throw new Fault(1, t.start);
                }
                if (many.merge(t.text, 1, Integer::sum) > most.getOrDefault(t.text, 99)) {
                    throw new Fault(6, t.start);
                }
                at++;
                statement(t.text);
                must(";");
                town.statements++;
            }
            return town;
        }

        void statement(String word) throws Fault {
            if (word.equals("museum")) {
                town.place = number(0, 99);
                must("keeps");
                town.keeps = number(1, 30);
            } else if (word.equals("thing")) {
                String n = fresh();
                must("worth");
                int w = number(0, 99);
                must("hangs");
                town.things.add(new Thing(n, w, number(0, 30)));
            } else if (word.equals("gang")) {
                String n = fresh();
                must("at");
                town.gangs.add(new Gang(n, number(0, 99)));
            } else if (word.equals("rota")) {
                do {
                    if (town.rota.size() == 12) {
                        throw new Fault(6, raw().start);
                    }
                    town.rota.add(gang());
                    at++;
                } while (raw().text.matches("[a-z]+") && (town.rota.size() == 12 || peek().kind != 's'));
            } else if (word.equals("wants")) {
                int g = gang();
                at++;
                int t = thing();
                at++;
                town.wants.put(g * 100 + t, number(0, 99));
            } else if (word.equals("visitor")) {
                String n = fresh();
                must("sees");
                List<Integer> row = new ArrayList<>();
                do {
                    int t = thing();
                    if (row.contains(t)) {
                        throw new Fault(3, raw().start);
                    }
                    row.add(t);
                    at++;
                } while (!is(";"));
                town.visitors.add(new Visitor(n, row));
            } else if (word.equals("draws")) {
                town.draws = sum();
            } else if (word.equals("may")) {
                town.may = test();
            } else {
                town.quarrel = number(0, 100);
            }
        }

        static long cut(long n) {
            return n > 1000000 ? 1000000 : n < -1000000 ? -1000000 : n;
        }

        static long div(long a, long b) {
            return b == 0 ? 0 : (long) Math.floor((double) a / b);
        }

        ToLongFunction<View> sum() throws Fault {
            ToLongFunction<View> left = product();
            while (is("+") || is("-")) {
                boolean plus = is("+");
                at++;
                ToLongFunction<View> a = left;
                ToLongFunction<View> b = product();
                left = v -> cut(a.applyAsLong(v) + (plus ? 1 : -1) * b.applyAsLong(v));
            }
            return left;
        }

        ToLongFunction<View> product() throws Fault {
            ToLongFunction<View> left = part();
            while (is("*") || is("/") || is("%")) {
                String op = raw().text;
                at++;
                ToLongFunction<View> a = left;
                ToLongFunction<View> b = part();
                left = v -> {
                    long x = a.applyAsLong(v);
                    long y = b.applyAsLong(v);
                    if (op.equals("*")) {
                        return cut(x * y);
                    }
                    return op.equals("/") ? cut(div(x, y)) : y == 0 ? 0 : cut(x - y * div(x, y));
                };
            }
            return left;
        }

        void opens(String s) throws Fault {
            int place = peek().start;
            if (!is(s)) {
                throw new Fault(1, place);
            }
            if (++open == 8) {
                throw new Fault(5, place);
            }
            at++;
        }

        ToLongFunction<View> part() throws Fault {
            Token t = peek();
            if (t.kind == '9') {
                at++;
                long n = Long.parseLong(t.text);
                return v -> n;
            }
            if (is("(")) {
                opens("(");
                ToLongFunction<View> inside = sum();
                must(")");
                open--;
                return inside;
            }
            if (is("min") || is("max")) {
                boolean least = is("min");
                at++;
                opens("(");
                ToLongFunction<View> a = sum();
                must(",");
                ToLongFunction<View> b = sum();
                must(")");
                open--;
                return v -> least ? Math.min(a.applyAsLong(v), b.applyAsLong(v)) : Math.max(a.applyAsLong(v), b.applyAsLong(v));
            }
            if (is("if")) {
                at++;
                opens("(");
                Predicate<View> p = test();
                must(",");
                ToLongFunction<View> a = sum();
                must(",");
                ToLongFunction<View> b = sum();
                must(")");
                open--;
                return v -> p.test(v) ? a.applyAsLong(v) : b.applyAsLong(v);
            }
            Map<String, ToLongFunction<View>> told = Map.of("worth", View::worth, "wants", View::wants, "hung", View::hung, "hangs",
                    View::hangs, "night", View::night, "has", View::has, "gone", View::gone);
            if (t.kind != 'o' || !told.containsKey(t.text)) {
                throw new Fault(1, t.start);
            }
            at++;
            return told.get(t.text);
        }

        Predicate<View> test() throws Fault {
            Predicate<View> left = both();
            while (is("or")) {
                at++;
                left = left.or(both());
            }
            return left;
        }

        Predicate<View> both() throws Fault {
            Predicate<View> left = fact();
            while (is("and")) {
                at++;
                left = left.and(fact());
            }
            return left;
        }

        Predicate<View> fact() throws Fault {
            if (is("not")) {
                opens("not");
                Predicate<View> inside = fact();
                open--;
                return inside.negate();
            }
            if (is("[")) {
                opens("[");
                Predicate<View> inside = test();
                must("]");
                open--;
                return inside;
            }
            if (is("all")) {
                at++;
                return v -> true;
            }
            ToLongFunction<View> a = sum();
            if (!is("<") && !is(">") && !is("=")) {
                throw new Fault(1, raw().start);
            }
            String sign = raw().text;
            at++;
            ToLongFunction<View> b = sum();
            return v -> {
                int c = Long.compare(a.applyAsLong(v), b.applyAsLong(v));
                return sign.equals("<") ? c < 0 : sign.equals(">") ? c > 0 : c == 0;
            };
        }
    }

    // ---- the object

    StringBuilder tape = new StringBuilder();
    Town town = new Town();
    State now = new State();
    List<State> undo = new ArrayList<>();
    long seed = 1;
    int[] refused = new int[6];
    int faultKind = 0;
    int faultPlace = NONE;
    List<Integer> seen = new ArrayList<>();
    List<Integer> octets = new ArrayList<>();

    Model() {
        now.where = new int[0];
        now.since = new int[0];
    }

    private int no(int kind) {
        refused[kind]++;
        return NONE;
    }

    private boolean bad(int kind) {
        refused[kind]++;
        return false;
    }

    private String take() {
        String s = tape.toString();
        tape.setLength(0);
        return s;
    }

    int feed(int... n) {
        if (tape.length() + 20 > 1600) {
            return no(0);
        }
        for (int x : n) {
            tape.append((char) (x >>> 24)).append((char) (x >> 16 & 255)).append((char) (x >> 8 & 255)).append((char) (x & 255));
        }
        return tape.length();
    }

    boolean end(int n) {
        if (n < 0 || n > tape.length()) {
            return bad(0);
        }
        tape.setLength(n);
        return true;
    }

    int town() {
        try {
            Town next = new Parser(take()).parse();
            town = next;
            faultKind = 0;
            faultPlace = NONE;
            now = new State();
            now.where = new int[town.things.size()];
            now.since = town.things.stream().mapToInt(Thing::hangs).toArray();
            undo.clear();
            seen.clear();
            return town.statements;
        } catch (Fault f) {
            faultKind = f.kind;
            faultPlace = f.place;
            return no(1);
        }
    }

    int fault(int what) {
        return what == 0 ? faultKind : what == 1 ? faultPlace : NONE;
    }

    private int worth(State s) {
        int sum = 0;
        for (int t = 0; t < s.where.length; t++) {
            sum += s.where[t] == 0 ? town.things.get(t).worth : 0;
        }
        return sum;
    }

    int has(int what) {
        int hang = 0;
        int stolen = 0;
        for (int w : now.where) {
            hang += w == 0 ? 1 : 0;
            stolen += w == 255 ? 1 : 0;
        }
        int[] all = {town.things.size(), town.gangs.size(), town.visitors.size(), now.night, town.rota.size(), hang, worth(now), stolen,
            Math.min(60, now.kept.size()), undo.size(), (int) seed};
        return what < 0 || what > 10 ? NONE : all[what];
    }

    int letter(int kind, int which, int k) {
        List<String> names = new ArrayList<>();
        if (kind == 0) {
            town.things.forEach(x -> names.add(x.name));
        } else if (kind == 1) {
            town.gangs.forEach(x -> names.add(x.name));
        } else if (kind == 2) {
            town.visitors.forEach(x -> names.add(x.name));
        }
        if (which < 0 || which >= names.size() || k < 0 || k > 5) {
            return NONE;
        }
        return k < names.get(which).length() ? names.get(which).charAt(k) - 96 : 0;
    }

    private boolean isThing(int t) {
        return t >= 0 && t < town.things.size();
    }

    private boolean isGang(int g) {
        return g >= 0 && g < town.gangs.size();
    }

    private boolean isVisitor(int v) {
        return v >= 0 && v < town.visitors.size();
    }

    int thing(int t, int what) {
        if (!isThing(t) || what < 0 || what > 3) {
            return NONE;
        }
        return new int[] {town.things.get(t).worth, town.things.get(t).hangs, now.where[t], now.since[t]}[what];
    }

    private View view(State s, int g, int t) {
        int has = 0;
        int gone = 0;
        for (int w : s.where) {
            has += w == g + 1 ? 1 : 0;
            gone += w != 0 ? 1 : 0;
        }
        return new View(town.things.get(t).worth, town.wanted(g, t), s.since[t], town.things.get(t).hangs, s.night, has, gone);
    }

    private List<Integer> can(State s, int g) {
        List<Integer> row = new ArrayList<>();
        for (int t = 0; t < s.where.length; t++) {
            if (s.where[t] == 0 && s.since[t] >= town.things.get(t).hangs && (town.may == null || town.may.test(view(s, g, t)))) {
                row.add(t);
            }
        }
        return row;
    }

    int gang(int g, int what) {
        if (!isGang(g)) {
            return NONE;
        }
        if (what == 0) {
            return town.gangs.get(g).place;
        }
        if (what == 1) {
            int bits = 0;
            for (int t = 0; t < now.where.length; t++) {
                bits += now.where[t] == g + 1 ? 1 << t : 0;
            }
            return bits;
        }
        if (what == 2) {
            return can(now, g).stream().mapToInt(t -> 1 << t).sum();
        }
        if (what == 3) {
            return (int) town.rota.stream().filter(x -> x == g).count();
        }
        return what >= 10 && isThing(what - 10) ? town.wanted(g, what - 10) : NONE;
    }

    int turn(int k) {
        return k >= 0 && k < town.rota.size() ? town.rota.get(k) : NONE;
    }

    // ---- nights

    private void bring(State s) {
        for (int t = 0; t < s.where.length; t++) {
            if (s.where[t] > 0 && s.where[t] < 255 && s.since[t] >= town.keeps) {
                s.where[t] = 0;
                s.since[t] = 0;
            }
        }
    }

    private void close(State s) {
        for (int t = 0; t < s.where.length; t++) {
            s.since[t] = Math.min(999, s.since[t] + 1);
        }
        s.night = Math.min(9999, s.night + 1);
    }

    private int drawn(State s, int g) {
        int found = NONE;
        long most = 0;
        for (int t : can(s, g)) {
            View v = view(s, g, t);
            long pull = town.draws == null ? v.worth + v.wants : town.draws.applyAsLong(v);
            if (pull > most) {
                most = pull;
                found = t;
            }
        }
        return found;
    }

    /** One NIGHT by these turns: the THING taken, NONE, or -2 for a quarrel. */
    private int night(State s, List<Integer> turns, boolean draws) {
        bring(s);
        int taken = NONE;
        if (!turns.isEmpty()) {
            int g = turns.get(s.night % turns.size());
            boolean quarrel = false;
            if (draws) {
                seed = (1103515245L * seed + 12345L) % (1L << 31);
                quarrel = seed / 64 % 100 < town.quarrel;
            }
            taken = quarrel ? -2 : drawn(s, g);
            if (taken >= 0) {
                s.where[taken] = g + 1;
                s.since[taken] = 0;
                s.kept.add(new Kept(s.night, g, taken));
            }
        }
        close(s);
        return taken;
    }

    private List<State> ahead() {
        List<State> row = new ArrayList<>();
        State s = now.copy();
        row.add(s.copy());
        for (int i = 1; i <= 60 && now.night + i <= 9999; i++) {
            night(s, town.rota, false);
            row.add(s.copy());
        }
        return row;
    }

    int later(int n, int what) {
        if (n < 0 || n >= ahead().size() || !isThing(what) && what != 10) {
            return NONE;
        }
        return what == 10 ? worth(ahead().get(n)) : ahead().get(n).where[what];
    }

    int idle() {
        List<State> row = ahead();
        for (int i = 1; i < row.size(); i++) {
            if (row.get(i).kept.size() == row.get(i - 1).kept.size()) {
                return i;
            }
        }
        return NONE;
    }

    private record Play(int thing, int[] gains) {
    }

    private Play play(State s, int left) {
        if (left == 0) {
            return new Play(NONE, new int[6]);
        }
        State back = s.copy();
        bring(back);
        int g = town.rota.get(back.night % town.rota.size());
        List<Integer> ways = new ArrayList<>(List.of(NONE));
        ways.addAll(can(back, g));
        Play best = null;
        for (int t : ways) {
            State then = back.copy();
            if (t != NONE) {
                then.where[t] = g + 1;
                then.since[t] = 0;
            }
            close(then);
            int[] gains = play(then, left - 1).gains.clone();
            gains[g] += t == NONE ? 0 : town.wanted(g, t);
            if (best == null || gains[g] > best.gains[g]) {
                best = new Play(t, gains);
            }
        }
        return best;
    }

    int best(int n, int what) {
        if (n < 1 || n > 4 || now.night + n > 9999 || what < 0 || what > 1 || town.rota.isEmpty()) {
            return NONE;
        }
        Play p = play(now, n);
        return what == 0 ? p.thing : p.gains[town.rota.get(now.night % town.rota.size())];
    }

    private void orders(List<Integer> row, List<List<Integer>> all) {
        if (row.size() == town.gangs.size()) {
            all.add(new ArrayList<>(row));
        }
        for (int g = 0; g < town.gangs.size(); g++) {
            if (!row.contains(g)) {
                row.add(g);
                orders(row, all);
                row.remove(row.size() - 1);
            }
        }
    }

    int rota(int n, int k) {
        if (town.gangs.isEmpty() || n < 1 || n > 60 || now.night + n > 9999 || k < -1 || k >= town.gangs.size()) {
            return NONE;
        }
        List<List<Integer>> all = new ArrayList<>();
        orders(new ArrayList<>(), all);
        int most = -1;
        List<Integer> found = null;
        for (List<Integer> order : all) {
            State s = now.copy();
            int sum = 0;
            for (int i = 0; i < n; i++) {
                night(s, order, false);
                sum += worth(s);
            }
            if (sum > most) {
                most = sum;
                found = order;
            }
        }
        return k == -1 ? most : found.get(k);
    }

    int sees(int v) {
        if (!isVisitor(v)) {
            return NONE;
        }
        List<State> row = ahead();
        for (int i = 0; i < row.size(); i++) {
            State s = row.get(i);
            if (town.visitors.get(v).sees.stream().allMatch(t -> s.where[t] == 0)) {
                return i;
            }
        }
        return NONE;
    }

    private int walk(int from, Set<Integer> houses) {
        int least = houses.isEmpty() ? 0 : Integer.MAX_VALUE;
        for (int h : houses) {
            Set<Integer> rest = new HashSet<>(houses);
            rest.remove(h);
            least = Math.min(least, Math.abs(h - from) + walk(h, rest));
        }
        return least;
    }

    int way(int v) {
        if (!isVisitor(v)) {
            return NONE;
        }
        Set<Integer> houses = new HashSet<>();
        for (int t : town.visitors.get(v).sees) {
            if (now.where[t] > 0 && now.where[t] < 255) {
                houses.add(town.gangs.get(now.where[t] - 1).place);
            }
        }
        return walk(town.place, houses);
    }

    private int awaited(int g) {
        int found = NONE;
        for (int t = now.where.length - 1; t >= 0; t--) {
            boolean other = now.where[t] > 0 && now.where[t] < 255 && now.where[t] != g + 1;
            if (other && town.wanted(g, t) > 0 && (found == NONE || town.wanted(g, t) >= town.wanted(g, found))) {
                found = t;
            }
        }
        return found;
    }

    int waits(int g, int what) {
        if (!isGang(g) || what < 0 || what > 2) {
            return NONE;
        }
        int t = awaited(g);
        if (what == 1) {
            return t;
        }
        if (what == 0) {
            return t == NONE ? NONE : now.where[t] - 1;
        }
        List<Integer> chain = new ArrayList<>(List.of(g));
        int at = g;
        while (awaited(at) != NONE) {
            at = now.where[awaited(at)] - 1;
            if (at == g) {
                return chain.size();
            }
            if (chain.contains(at)) {
                return 0;
            }
            chain.add(at);
        }
        return 0;
    }

    int looked() {
        String rows = take();
        if (rows.isEmpty() || rows.length() % 2 != 0 || rows.length() > 32) {
            return no(5);
        }
        for (int i = 0; i < rows.length(); i += 2) {
            if (!isThing(rows.charAt(i)) || rows.charAt(i + 1) > 1) {
                return no(5);
            }
        }
        seen.clear();
        List<State> all = ahead();
        for (int n = 0; n < all.size(); n++) {
            boolean so = true;
            for (int i = 0; i < rows.length(); i += 2) {
                so &= all.get(n).where[rows.charAt(i)] == 0 == (rows.charAt(i + 1) == 1);
            }
            if (so) {
                seen.add(n);
            }
        }
        return seen.size();
    }

    int when(int k) {
        return k >= 0 && k < seen.size() ? seen.get(k) : NONE;
    }

    int lies() {
        String rows = take();
        if (rows.isEmpty() || rows.length() % 3 != 0 || rows.length() > 48) {
            return no(5);
        }
        Set<Integer> liars = new HashSet<>();
        for (int i = 0; i < rows.length(); i += 3) {
            int g = rows.charAt(i);
            int t = rows.charAt(i + 1);
            if (!isGang(g) || !isThing(t) || rows.charAt(i + 2) > 1) {
                return no(5);
            }
            if ((now.where[t] == g + 1) != (rows.charAt(i + 2) == 1)) {
                liars.add(g);
            }
        }
        return liars.size();
    }

    // ---- acts

    private void act() {
        undo.add(now.copy());
        if (undo.size() > 20) {
            undo.remove(0);
        }
    }

    int nights(int n) {
        if (n < 1 || n > 100 || now.night + n > 9999) {
            return no(2);
        }
        act();
        int before = now.kept.size();
        for (int i = 0; i < n; i++) {
            night(now, town.rota, false);
        }
        return now.kept.size() - before;
    }

    int chance(int n) {
        if (n < 1 || n > 100 || now.night + n > 9999) {
            return no(2);
        }
        act();
        int quarrels = 0;
        for (int i = 0; i < n; i++) {
            quarrels += night(now, town.rota, true) == -2 ? 1 : 0;
        }
        return quarrels;
    }

    boolean steal(int t) {
        if (!isThing(t) || now.where[t] == 255) {
            return bad(3);
        }
        act();
        now.where[t] = 255;
        now.since[t] = 0;
        return true;
    }

    boolean back(int t) {
        if (!isThing(t) || now.where[t] == 0) {
            return bad(3);
        }
        act();
        now.where[t] = 0;
        now.since[t] = 0;
        return true;
    }

    boolean swap(int a, int b) {
        if (!isThing(a) || !isThing(b)) {
            return bad(3);
        }
        int x = now.where[a];
        int y = now.where[b];
        if (x == y || x == 0 || y == 0 || x == 255 || y == 255) {
            return bad(3);
        }
        act();
        now.where[a] = y;
        now.where[b] = x;
        now.since[a] = 0;
        now.since[b] = 0;
        return true;
    }

    boolean undo() {
        if (undo.isEmpty()) {
            return bad(4);
        }
        now = undo.remove(undo.size() - 1);
        return true;
    }

    boolean seed(int s) {
        if (s < 0) {
            return bad(5);
        }
        seed = s;
        return true;
    }

    int kept(int k, int what) {
        int told = Math.min(60, now.kept.size());
        if (k < 0 || k >= told || what < 0 || what > 2) {
            return NONE;
        }
        Kept row = now.kept.get(now.kept.size() - told + k);
        return new int[] {row.night, row.gang, row.thing}[what];
    }

    int image() {
        octets.clear();
        octets.add(now.night / 256);
        octets.add(now.night % 256);
        for (int t = 0; t < now.where.length; t++) {
            octets.add(now.where[t]);
            octets.add(now.since[t] / 256);
            octets.add(now.since[t] % 256);
        }
        int c = 137;
        for (int o : octets) {
            c = (5 * c + o) % 251;
        }
        octets.add(c);
        return octets.size();
    }

    int octet(int k) {
        return k >= 0 && k < octets.size() ? octets.get(k) : NONE;
    }

    boolean on() {
        String s = take();
        State next = new State();
        next.where = new int[town.things.size()];
        next.since = new int[town.things.size()];
        if (s.length() != 3 + 3 * next.where.length) {
            return bad(5);
        }
        next.night = s.charAt(0) * 256 + s.charAt(1);
        boolean fits = next.night <= 9999;
        for (int t = 0; t < next.where.length; t++) {
            next.where[t] = s.charAt(2 + 3 * t);
            next.since[t] = s.charAt(3 + 3 * t) * 256 + s.charAt(4 + 3 * t);
            fits &= (next.where[t] <= town.gangs.size() || next.where[t] == 255) && next.since[t] <= 999;
        }
        int c = 137;
        for (int i = 0; i < s.length() - 1; i++) {
            c = (5 * c + s.charAt(i)) % 251;
        }
        if (!fits || c != s.charAt(s.length() - 1)) {
            return bad(5);
        }
        now = next;
        undo.clear();
        return true;
    }

    int status(int what) {
        return what >= 0 && what < 6 ? refused[what] : NONE;
    }
}
