import java.nio.charset.StandardCharsets;
import java.util.Random;

/** Runs of calls by chance (always the same ones) on the class and on the Model, whose answers must be alike. */
public final class ModelTest {
    private static final String[] NAMES = {"a", "b", "vase", "horse", "cup", "xx", "yyyyyy", "reds", "blues", "amy", "bo", "zed", "qu", "wor",
        "min", "visitor", "abcdefg"};
    private final Random random;
    private RotaMuseum x = new RotaMuseum();
    private Model m = new Model();
    private String log = "";

    private ModelTest(long seed) {
        random = new Random(seed);
    }

    private int upTo(int n) {
        return random.nextInt(n + 1);
    }

    private String pick(String... of) {
        return of[random.nextInt(of.length)];
    }

    private String sum(int depth) {
        int kind = depth <= 0 ? upTo(1) : upTo(7);
        switch (kind) {
            case 0:
                return "" + pick("0", "1", "2", "3", "7", "50", "9999");
            case 1:
                return pick("worth", "wants", "hung", "hangs", "night", "has", "gone");
            case 2:
                return "(" + sum(depth - 1) + ")";
            case 3:
                return pick("min", "max") + "(" + sum(depth - 1) + " ," + sum(depth - 1) + ")";
            case 4:
                return "if (" + test(depth - 1) + "," + sum(depth - 1) + "," + sum(depth - 1) + ")";
            case 5:
                return sum(depth - 1) + pick("*", "/", "%") + sum(depth - 1);
            default:
                return sum(depth - 1) + pick("+", "-", " - ") + sum(depth - 1);
        }
    }

    private String test(int depth) {
        int kind = depth <= 0 ? upTo(1) : upTo(6);
        switch (kind) {
            case 0:
                return "all";
            case 2:
                return "not " + test(depth - 1);
            case 3:
                return "[" + test(depth - 1) + "]";
            case 4:
                return test(depth - 1) + " and " + test(depth - 1);
            case 5:
                return test(depth - 1) + " or " + test(depth - 1);
            default:
                return sum(depth - 1) + pick("<", ">", "=") + sum(depth - 1);
        }
    }

    private static String name(String sort, int i) {
        return sort + (char) ('a' + i);
    }

    private String text() {
        int things = 1 + upTo(upTo(1) == 0 ? 3 : 7);
        int gangs = upTo(9) == 0 ? 0 : 1 + upTo(upTo(3) == 0 ? 5 : 3);
        int visitors = upTo(3);
        StringBuilder s = new StringBuilder("museum " + upTo(99) + " keeps " + (1 + upTo(upTo(1) == 0 ? 3 : 29)) + ";");
        for (int i = 0; i < things; i++) {
            s.append("thing ").append(name("t", i)).append(" worth ").append(upTo(99)).append(" hangs ").append(upTo(upTo(3) == 0 ? 30 : 3))
                .append("; ");
        }
        for (int i = 0; i < gangs; i++) {
            s.append("gang ").append(name("g", i)).append(" at ").append(upTo(99)).append(";\n");
        }
        if (gangs > 0 && upTo(9) > 0) {
            s.append("rota");
            int turns = 1 + upTo(upTo(3) == 0 ? 11 : 4);
            for (int i = 0; i < turns; i++) {
                s.append(' ').append(name("g", upTo(gangs - 1)));
            }
            s.append(" ;");
        }
        for (int i = upTo(20); i > 0 && gangs > 0; i--) {
            s.append("wants ").append(name("g", upTo(gangs - 1))).append(' ').append(name("t", upTo(things - 1))).append(' ')
                .append(upTo(upTo(2) == 0 ? 3 : 99)).append(";");
        }
        for (int i = 0; i < visitors; i++) {
            s.append("visitor ").append(name("v", i)).append(" sees");
            int mask = 1 + upTo((1 << things) - 2 < 0 ? 0 : (1 << things) - 2);
            for (int t = 0; t < things; t++) {
                s.append((mask >> t & 1) != 0 ? " " + name("t", t) : "");
            }
            s.append(";");
        }
        if (upTo(1) == 0) {
            s.append("draws ").append(sum(upTo(4))).append(";");
        }
        if (upTo(1) == 0) {
            s.append("may ").append(upTo(1) == 0 ? "hung+1>" + sum(1) + " or " : "").append(test(upTo(4))).append(";");
        }
        if (upTo(2) > 0) {
            s.append("quarrel ").append(upTo(100)).append(";");
        }
        return s.toString();
    }

    private String spoiled(String text) {
        StringBuilder s = new StringBuilder(text);
        for (int i = 1 + upTo(1); i > 0; i--) {
            int at = upTo(s.length() - 1);
            switch (upTo(5)) {
                case 0:
                    s.deleteCharAt(at);
                    break;
                case 1:
                    s.insert(at, pick(";", " ", "(", ")", "[", "]", "5", "99999", "a", "zzzzzzz", "not ", "-", ",", "\n", "A", "\u00e9", "31"));
                    break;
                case 2:
                    s.insert(at, " " + pick(NAMES) + " ");
                    break;
                case 3:
                    s.setLength(at + 1);
                    break;
                case 4:
                    s.insert(at, pick("((((", "not not not not ", "[[[[", "min(", "if("));
                    break;
                default:
                    int to = Math.min(s.length(), at + upTo(30));
                    s.insert(upTo(s.length() - 1), s.substring(at, to));
                    break;
            }
            if (s.length() == 0) {
                return "";
            }
        }
        return s.toString();
    }

    /** Spoiled by whole STATEMENTS, NAMES and NUMBERS, so that the later FAULTS come up too. */
    private String turned(String text) {
        String[] parts = text.split(";");
        int i = upTo(parts.length - 1);
        int j = upTo(parts.length - 1);
        switch (upTo(6)) {
            case 0:
                parts[i] = parts[i] + ";" + parts[j];
                break;
            case 1:
                String former = parts[i];
                parts[i] = parts[j];
                parts[j] = former;
                break;
            case 2:
                parts[i] = parts[i].replaceFirst("[0-9]+", pick("30", "31", "99", "100", "101", "0", "9999", "10000"));
                break;
            case 3:
                parts[i] = parts[i].replaceFirst("(worth|hung|gone|all|[0-9])", pick("((((((($1)))))))", "(((((((($1", "not not not not $1",
                    "[[[[[[[$1", "min(1,max(1,if(not [all],min(1,max($1,(1)),1),1)"));
                break;
            case 4:
                parts[i] = parts[i].replaceFirst(" [tgv][a-h]\\b", " " + name(pick("t", "g", "v"), upTo(7)));
                break;
            case 5:
                parts[i] = parts[i].replaceFirst("rota", "rota ga ga ga ga ga ga ga ga") + " " + pick("ga", "gb", "museum", "zzzzzzz", "5");
                break;
            default:
                parts[i] = parts[i] + ";" + "quarrel 5;".repeat(upTo(80));
                break;
        }
        return String.join(";", parts) + ";";
    }

    private void tape(byte[] bytes) {
        for (int from = 0; from < bytes.length; from += 20) {
            int[] n = new int[5];
            for (int i = 0; i < 20; i++) {
                n[i / 4] = n[i / 4] << 8 | (from + i < bytes.length ? bytes[from + i] & 255 : 32);
            }
            Kit.due("feed", x.feed(n[0], n[1], n[2], n[3], n[4]), m.feed(n));
        }
        int n = upTo(99) == 0 ? upTo(2000) - 100 : bytes.length;
        Kit.due("end", x.end(n), m.end(n));
    }

    private void town() {
        String text = text();
        if (upTo(2) == 0) {
            text = spoiled(text);
        } else if (upTo(2) == 0) {
            text = turned(upTo(1) == 0 ? turned(text) : text);
        }
        text = text.substring(0, Math.min(1600, text.length()));
        tape(text.getBytes(StandardCharsets.ISO_8859_1));
        log = text;
        due("town()", x.town(), m.town());
        due("fault(0)", x.fault(0), m.fault(0));
        due("fault(1)", x.fault(1), m.fault(1));
    }

    private void due(String call, long got, long want) {
        Kit.due(got == want ? call : call + " of " + log, got, want);
    }

    private void due(String call, boolean got, boolean want) {
        due(call, got ? 1 : 0, want ? 1 : 0);
    }

    private int any(int most) {
        int kind = upTo(40);
        if (kind == 0) {
            return random.nextInt();
        }
        return kind == 1 ? -1 : kind == 2 ? most + 1 : upTo(most);
    }

    private void rows(int size) {
        int rows = upTo(20) == 0 ? upTo(17) : 1 + upTo(3);
        byte[] row = new byte[rows * size + (upTo(20) == 0 ? 1 : 0)];
        for (int i = 0; i < row.length; i++) {
            int most = i % size == size - 1 ? 1 : size == 3 && i % size == 0 ? m.town.gangs.size() - 1 : m.town.things.size() - 1;
            row[i] = (byte) (upTo(100) == 0 ? upTo(255) : upTo(Math.max(0, most)));
        }
        tape(row);
    }

    private void imageRow() {
        int[] rows = new int[2 * m.town.things.size()];
        for (int i = 0; i < rows.length; i += 2) {
            rows[i] = upTo(2) == 0 ? 0 : upTo(4) == 0 ? 255 : upTo(m.town.gangs.size() + (upTo(30) == 0 ? 1 : 0));
            rows[i + 1] = upTo(5) == 0 ? 990 + upTo(11) : upTo(20);
        }
        int[] image = Kit.image(upTo(2) == 0 ? 9930 + upTo(71) : upTo(60), rows);
        if (upTo(15) == 0) {
            image[upTo(image.length - 1)] ^= 1 << upTo(7);
        }
        byte[] bytes = new byte[image.length];
        for (int i = 0; i < bytes.length; i++) {
            bytes[i] = (byte) image[i];
        }
        tape(bytes);
    }

    private void tell() {
        for (int i = 0; i <= 11; i++) {
            due("has(" + i + ")", x.has(i), m.has(i));
        }
        for (int t = 0; t < 9; t++) {
            for (int i = -1; i < 5; i++) {
                due("thing(" + t + "," + i + ")", x.thing(t, i), m.thing(t, i));
            }
        }
        for (int g = 0; g < 7; g++) {
            for (int i = 0; i < 19; i++) {
                due("gang(" + g + "," + i + ")", x.gang(g, i), m.gang(g, i));
            }
            for (int i = -1; i < 4; i++) {
                due("waits(" + g + "," + i + ")", x.waits(g, i), m.waits(g, i));
            }
            due("sees(" + g + ")", x.sees(g), m.sees(g));
            due("way(" + g + ")", x.way(g), m.way(g));
        }
    }

    private void call() {
        int a = any(8);
        int b = any(8);
        int c = any(6);
        int n = any(upTo(1) == 0 ? 60 : 4);
        switch (upTo(31)) {
            case 0:
                rows(2);
                due("looked()", x.looked(), m.looked());
                break;
            case 1:
                rows(3);
                due("lies()", x.lies(), m.lies());
                break;
            case 2:
                imageRow();
                due("on()", x.on(), m.on());
                break;
            case 3:
                due("image()", x.image(), m.image());
                break;
            case 4:
                due("octet", x.octet(n), m.octet(n));
                break;
            case 5:
            case 6:
            case 7:
                n = upTo(1) == 0 ? 1 : n;
                due("nights", x.nights(n), m.nights(n));
                break;
            case 8:
            case 9:
            case 10:
                n = upTo(3) == 0 ? 1 + upTo(100) : n;
                due("chance", x.chance(n), m.chance(n));
                break;
            case 11:
                due("steal", x.steal(a), m.steal(a));
                break;
            case 12:
                due("back", x.back(a), m.back(a));
                break;
            case 13:
            case 14:
                due("swap", x.swap(a, b), m.swap(a, b));
                break;
            case 15:
            case 16:
                due("undo", x.undo(), m.undo());
                break;
            case 17:
                n = random.nextInt();
                due("seed", x.seed(n), m.seed(n));
                break;
            case 18:
                due("kept", x.kept(n, a % 4), m.kept(n, a % 4));
                break;
            case 19:
                due("when", x.when(n), m.when(n));
                break;
            case 20:
                due("status", x.status(a), m.status(a));
                break;
            case 21:
                due("letter", x.letter(c % 4, a, b), m.letter(c % 4, a, b));
                break;
            case 22:
                due("turn", x.turn(n), m.turn(n));
                break;
            case 23:
                due("later", x.later(n, b), m.later(n, b));
                due("later", x.later(n, 10), m.later(n, 10));
                break;
            case 24:
                due("idle", x.idle(), m.idle());
                break;
            case 25:
            case 26:
                n = any(4);
                due("best(" + n + ",0)", x.best(n, 0), m.best(n, 0));
                due("best(" + n + ",1)", x.best(n, 1), m.best(n, 1));
                due("best(" + n + ",a)", x.best(n, a), m.best(n, a));
                break;
            case 27:
            case 28:
                n = m.town.gangs.size() > 4 ? n % 13 : n;
                due("rota(" + n + ",-1)", x.rota(n, -1), m.rota(n, -1));
                due("rota(" + n + "," + c + ")", x.rota(n, c), m.rota(n, c));
                break;
            case 29:
                due("fault", x.fault(a), m.fault(a));
                break;
            default:
                tell();
                break;
        }
    }

    private void run() {
        for (int i = 0; i < 3; i++) {
            call();
        }
        for (int towns = 1 + upTo(2); towns > 0; towns--) {
            town();
            for (int i = 0; i < 60; i++) {
                call();
            }
        }
        for (int k = 0; k < 61; k++) {
            due("kept", x.kept(k, 0) * 100 + x.kept(k, 1) * 10 + x.kept(k, 2), m.kept(k, 0) * 100 + m.kept(k, 1) * 10 + m.kept(k, 2));
        }
    }

    public static void main(String[] args) {
        int runs = args.length > 0 ? Integer.parseInt(args[0]) : 1500;
        int from = args.length > 1 ? Integer.parseInt(args[1]) : 0;
        for (int seed = from; seed < from + runs; seed++) {
            new ModelTest(seed).run();
        }
        Kit.finish("ModelTest");
    }
}
