import java.nio.charset.StandardCharsets;

/** What the tests share: feeding texts and bytes, and counting what is not as due. */
final class Kit {
    private static int asked = 0;
    private static int wrong = 0;

    private Kit() {
    }

    static void due(String what, long got, long want) {
        asked++;
        if (got != want) {
            wrong++;
            if (wrong <= 50) {
                System.out.println(what + " answered " + got + ", due is " + want);
            }
        }
    }

    static void due(String what, boolean got, boolean want) {
        due(what, got ? 1 : 0, want ? 1 : 0);
    }

    static void finish(String test) {
        System.out.println(test + ": " + asked + " answers, " + wrong + " not as due");
        if (wrong != 0) {
            System.exit(1);
        }
    }

    static void feed(RotaMuseum x, byte[] bytes) {
        int base = 0;
        for (int from = 0; from < bytes.length; from += 20) {
            int[] n = new int[5];
            for (int i = 0; i < 20; i++) {
                int b = from + i < bytes.length ? bytes[from + i] & 255 : 32;
                n[i / 4] = n[i / 4] << 8 | b;
            }
            base = x.feed(n[0], n[1], n[2], n[3], n[4]);
        }
        if (bytes.length > 0 && (base < bytes.length || !x.end(bytes.length))) {
            throw new IllegalStateException("the tape was not empty, or the text is too long");
        }
    }

    static void feed(RotaMuseum x, String text) {
        feed(x, text.getBytes(StandardCharsets.ISO_8859_1));
    }

    static void feed(RotaMuseum x, int... bytes) {
        byte[] row = new byte[bytes.length];
        for (int i = 0; i < bytes.length; i++) {
            row[i] = (byte) bytes[i];
        }
        feed(x, row);
    }

    static int town(RotaMuseum x, String text) {
        feed(x, text);
        return x.town();
    }

    static RotaMuseum museum(String text) {
        RotaMuseum x = new RotaMuseum();
        if (town(x, text) < 1) {
            throw new IllegalStateException("fault " + x.fault(0) + " at " + x.fault(1) + " of " + text);
        }
        return x;
    }

    /** The image of a NIGHT and rows of where, nights. */
    static int[] image(int night, int... rows) {
        int[] all = new int[3 + rows.length / 2 * 3];
        all[0] = night >> 8;
        all[1] = night & 255;
        for (int i = 0; i < rows.length / 2; i++) {
            all[2 + 3 * i] = rows[2 * i];
            all[3 + 3 * i] = rows[2 * i + 1] >> 8;
            all[4 + 3 * i] = rows[2 * i + 1] & 255;
        }
        int c = 137;
        for (int i = 0; i < all.length - 1; i++) {
            c = (5 * c + all[i]) % 251;
        }
        all[all.length - 1] = c;
        return all;
    }
}
