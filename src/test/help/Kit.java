import java.nio.charset.StandardCharsets;
import java.util.function.BooleanSupplier;

/** What the tests share: feeding texts and bytes, and counting what is not as due. */
final class Kit {
    private static int asked = 0;
    private static int wrong = 0;

    private Kit() {
    }

    static void due(String what, long got, long want) {
        asked++;
        if (got != want) {
            wrong++;
            if (wrong <= 50) {
                System.out.println(what + " answered " + got + ", due is " + want);
            }
        }
    }

    static void due(String what, boolean got, boolean want) {
        due(what, got ? 1 : 0, want ? 1 : 0);
    }

    static void finish(String test) {
        System.out.println(test + ": " + asked + " answers, " + wrong + " not as due");
        if (wrong != 0) {
            System.exit(1);
        }
    }

    static void feed(RotaMuseum x, byte[] bytes) {
        int base = 0;
        for (int from = 0; from < bytes.length; from += 20) {
            int[] n = new int[5];
            for (int i = 0; i < 20; i++) {
                int b = from + i < bytes.length ? bytes[from + i] & 255 : 32;
                n[i / 4] = n[i / 4] << 8 | b;
            }
            base = x.feed(n[0], n[1], n[2], n[3], n[4]);
        }
        if (bytes.length > 0 && (base < bytes.length || !x.end(bytes.length))) {
            throw new IllegalStateException("the tape was not empty, or the text is too long");
        }
    }

    static void feed(RotaMuseum x, String text) {
        feed(x, text.getBytes(StandardCharsets.ISO_8859_1));
    }

    static void feed(RotaMuseum x, int... bytes) {
        byte[] row = new byte[bytes.length];
        for (int i = 0; i < bytes.length; i++) {
            row[i] = (byte) bytes[i];
        }
        feed(x, row);
    }

    static int town(RotaMuseum x, String text) {
        feed(x, text);
        return x.town();
    }

    static RotaMuseum museum(String text) {
        RotaMuseum x = new RotaMuseum();
        if (town(x, text) < 1) {
            throw new IllegalStateException("fault " + x.fault(0) + " at " + x.fault(1) + " of " + text);
        }
        return x;
    }

    /** The place of the FAULT is where ^ stands; the mark itself is no part of the text. */
    static void fault(int kind, String marked) {
        int place = marked.indexOf('^');
        fault(kind, place, marked.substring(0, place) + marked.substring(place + 1));
    }

    static void fault(int kind, int place, String text) {
        RotaMuseum x = new RotaMuseum();
        due("town of " + text, town(x, text), RotaMuseum.NONE);
        due("fault of " + text, x.fault(0), kind);
        due("place of " + text, x.fault(1), place);
        due("refused of " + text, x.status(1), 1);
    }

    static void stands(int statements, String text) {
        RotaMuseum x = new RotaMuseum();
        due("town of " + text, town(x, text), statements);
        due("fault of " + text, x.fault(0), 0);
        due("place of " + text, x.fault(1), RotaMuseum.NONE);
        due("refused of " + text, x.status(1), 0);
    }

    /** A town, with all as an image of this NIGHT and these rows of where, nights tells. */
    static RotaMuseum museumOn(String text, int night, int... rows) {
        RotaMuseum x = museum(text);
        put(x, night, rows);
        return x;
    }

    static void put(RotaMuseum x, int night, int... rows) {
        feed(x, image(night, rows));
        if (!x.on()) {
            throw new IllegalStateException("no image of this town");
        }
    }

    /** What the object tells of itself, without its counts of what was refused. */
    static String state(RotaMuseum x) {
        StringBuilder s = new StringBuilder("fault " + x.fault(0) + " " + x.fault(1) + " has");
        for (int what = 0; what <= 10; what++) {
            s.append(' ').append(x.has(what));
        }
        for (int t = 0; t < x.has(0); t++) {
            s.append(" thing ").append(x.thing(t, 2)).append(' ').append(x.thing(t, 3));
        }
        int told = x.has(8);
        for (int k = Math.max(0, told - 2); k < told; k++) {
            s.append(" kept ").append(x.kept(k, 0)).append(' ').append(x.kept(k, 1)).append(' ').append(x.kept(k, 2));
        }
        s.append(" when ").append(x.when(0)).append(' ').append(x.when(1)).append(" octet ").append(x.octet(1)).append(' ').append(x.octet(2));
        return s.toString();
    }

    /** A call that must be refused: one is counted in this row and none in others, and all else stays. */
    static void refuses(String what, RotaMuseum x, int row, BooleanSupplier call) {
        String before = state(x);
        int[] counts = new int[6];
        for (int i = 0; i < 6; i++) {
            counts[i] = x.status(i) + (i == row ? 1 : 0);
        }
        due(what, call.getAsBoolean(), true);
        for (int i = 0; i < 6; i++) {
            due(what + ", refused " + i, x.status(i), counts[i]);
        }
        String after = state(x);
        due(what + ", all stays: " + before + " / " + after, before.equals(after), true);
    }

    /** The image of a NIGHT and rows of where, nights. */
    static int[] image(int night, int... rows) {
        int[] all = new int[3 + rows.length / 2 * 3];
        all[0] = night >> 8;
        all[1] = night & 255;
        for (int i = 0; i < rows.length / 2; i++) {
            all[2 + 3 * i] = rows[2 * i];
            all[3 + 3 * i] = rows[2 * i + 1] >> 8;
            all[4 + 3 * i] = rows[2 * i + 1] & 255;
        }
        int c = 137;
        for (int i = 0; i < all.length - 1; i++) {
            c = (5 * c + all[i]) % 251;
        }
        all[all.length - 1] = c;
        return all;
    }
}
