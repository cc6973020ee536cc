import java.util.Arrays;
import java.util.function.BooleanSupplier;

/** Promises 1 to 32: each argument at its limits, one below and one above, on an empty, a small and a full TOWN; each call that is refused. */
public final class EdgeCallTest {
    private static final int NONE = RotaMuseum.NONE;
    private static final int MIN = Integer.MIN_VALUE;
    private static final int MAX = Integer.MAX_VALUE;
    private static final int STOLEN = 255;
    private static final int BLANKS = 0x20202020;
    private static final String SMALL = "museum 50 keeps 3;thing a worth 10 hangs 1;thing b worth 7 hangs 0;gang g at 40;gang h at 70;rota g h;wants g a 5;"
        + "wants h b 9;visitor v sees a;quarrel 40;";
    private static final String FULL = full();

    private static String full() {
        StringBuilder s = new StringBuilder("museum 9 keeps 30;");
        for (int i = 0; i < 8; i++) {
            s.append("thing thing").append((char) ('a' + i)).append(" worth ").append(90 + i).append(" hangs ").append(20 + i).append(';');
        }
        for (int i = 0; i < 6; i++) {
            s.append("gang gang").append((char) ('a' + i)).append(" at ").append(70 + i).append(';');
        }
        for (int i = 0; i < 6; i++) {
            s.append("visitor v").append((char) ('a' + i)).append(" sees thing").append((char) ('a' + i)).append(';');
        }
        s.append("rota gangf gange gangd gangc gangb ganga ganga ganga ganga ganga ganga gangf;wants gangf thingh 99;wants ganga thinga 1;");
        return s.toString();
    }

    private static void due(String what, long got, long want) {
        Kit.due(what, got, want);
    }

    private static void due(String what, boolean got, boolean want) {
        Kit.due(what, got, want);
    }

    private static RotaMuseum busy() {
        RotaMuseum x = Kit.museum(SMALL);
        x.nights(2);
        x.chance(3);
        Kit.feed(x, 0, 0);
        x.looked();
        x.image();
        return x;
    }

    // No museum, no THINGS; the seed is 1.
    private static void p01() {
        RotaMuseum x = new RotaMuseum();
        for (int what = 0; what <= 9; what++) {
            due("1: has " + what, x.has(what), 0);
        }
        due("1: the seed", x.has(10), 1);
        for (int i = 0; i <= 5; i++) {
            due("1: nothing was refused", x.status(i), 0);
        }
        for (int i = -1; i <= 1; i++) {
            due("1: letter", x.letter(i, 0, 0), NONE);
            due("1: thing", x.thing(i, 2), NONE);
            due("1: gang", x.gang(i, 2), NONE);
            due("1: turn", x.turn(i), NONE);
            due("1: later", x.later(1, i), NONE);
            due("1: best", x.best(1, i), NONE);
            due("1: rota", x.rota(1, i), NONE);
            due("1: sees", x.sees(i), NONE);
            due("1: way", x.way(i), NONE);
            due("1: waits", x.waits(i, 0), NONE);
            due("1: when", x.when(i), NONE);
            due("1: kept", x.kept(i, 0), NONE);
            due("1: octet", x.octet(i), NONE);
        }
        due("1: later", x.later(60, 10), 0);
        due("1: idle", x.idle(), 1);
        Kit.refuses("1: undo", x, 4, () -> !x.undo());
        Kit.refuses("1: steal", x, 3, () -> !x.steal(0));
        Kit.refuses("1: back", x, 3, () -> !x.back(0));
        Kit.refuses("1: swap", x, 3, () -> !x.swap(0, 1));
        Kit.refuses("1: on, without a tape", x, 5, () -> !x.on());
        Kit.refuses("1: looked", x, 5, () -> x.looked() == NONE);
        Kit.refuses("1: lies", x, 5, () -> x.lies() == NONE);
        due("1: nights", x.nights(100), 0);
        due("1: chance", x.chance(100), 0);
        due("1: night", x.has(3), 200);
        due("1: two acts", x.has(9), 2);
    }

    // Twenty bytes come behind those on the tape .. NONE, refused (0), if there would be more than 1600.
    private static void p02() {
        RotaMuseum x = new RotaMuseum();
        for (int n = 20; n <= 1600; n += 20) {
            due("2: bytes", x.feed(BLANKS, BLANKS, BLANKS, BLANKS, BLANKS), n);
        }
        Kit.refuses("2: 1620", x, 0, () -> x.feed(0, 0, 0, 0, 0) == NONE);
        due("2: all 1600 are there", x.end(1600), true);
        for (int n = 1599; n > 1580; n--) {
            x.end(n);
            Kit.refuses("2: behind " + n, x, 0, () -> x.feed(0, 0, 0, 0, 0) == NONE);
            due("2: all stay", x.end(n), true);
        }
        x.end(1580);
        due("2: behind 1580", x.feed(BLANKS, BLANKS, BLANKS, BLANKS, BLANKS), 1600);
        x.end(1579);
        due("2: behind 1579", x.feed(BLANKS, BLANKS, BLANKS, BLANKS, BLANKS), 1599);
        x.town();
        due("2: nothing but blanks", x.fault(1), 1599);
    }

    // of each number the highest first
    private static void p02Order() {
        for (int at = 0; at < 40; at++) {
            int[] n = {BLANKS, BLANKS, BLANKS, BLANKS, BLANKS, BLANKS, BLANKS, BLANKS, BLANKS, BLANKS};
            n[at / 4] |= 0xff << 24 - 8 * (at % 4);
            RotaMuseum x = new RotaMuseum();
            due("2: 20", x.feed(n[0], n[1], n[2], n[3], n[4]), 20);
            due("2: 40", x.feed(n[5], n[6], n[7], n[8], n[9]), 40);
            x.town();
            due("2: byte " + at, x.fault(1), at);
        }
        RotaMuseum y = new RotaMuseum();
        y.feed(0x6d757365, 0x756d2039, 0x39206b65, 0x65707320, 0x33303b20);
        due("2: museum 99 keeps 30; and a blank", y.town(), 1);
        // Bytes of numbers below 0 are as high as 255.
        y.feed(MIN, -1, -1, -1, -1);
        y.end(3);
        due("2: no image", y.on(), false);
    }

    // The tape has its first n bytes alone: true; false, refused (0), if it has not so many, or n is below 0.
    private static void p03() {
        RotaMuseum x = new RotaMuseum();
        due("3: 0 of 0", x.end(0), true);
        for (int n : new int[] {1, -1, 20, MIN, MAX}) {
            Kit.refuses("3: " + n + " of 0", x, 0, () -> !x.end(n));
        }
        x.feed(0, 0, 0, 0, 0);
        for (int n : new int[] {21, 22, 1600, -1, -20, MIN, MAX}) {
            Kit.refuses("3: " + n + " of 20", x, 0, () -> !x.end(n));
        }
        due("3: 20 of 20", x.end(20), true);
        due("3: 19 of 20", x.end(19), true);
        Kit.refuses("3: 20 of 19", x, 0, () -> !x.end(20));
        due("3: 1 of 19", x.end(1), true);
        Kit.refuses("3: 2 of 1", x, 0, () -> !x.end(2));
        due("3: behind 1", x.feed(0, 0, 0, 0, 0), 21);
        due("3: 0 of 21", x.end(0), true);
        Kit.refuses("3: 1 of 0", x, 0, () -> !x.end(1));
        due("3: behind 0", x.feed(0, 0, 0, 0, 0), 20);
        RotaMuseum y = new RotaMuseum();
        for (int i = 0; i < 80; i++) {
            y.feed(BLANKS, BLANKS, BLANKS, BLANKS, BLANKS);
        }
        Kit.refuses("3: 1601 of 1600", y, 0, () -> !y.end(1601));
        due("3: 1600 of 1600", y.end(1600), true);
        due("3: 1599 of 1600", y.end(1599), true);
    }

    // What was cut off is not there any more, whatever comes behind.
    private static void p03Cut() {
        RotaMuseum x = new RotaMuseum();
        Kit.feed(x, "museum 5 keeps 5;thing");
        x.end(17);
        due("3: cut", x.town(), 1);
        Kit.feed(x, "museum 5 keeps 5;xxx");
        x.end(17);
        x.feed(BLANKS, BLANKS, BLANKS, BLANKS, BLANKS);
        due("3: blanks in its place", x.town(), 1);
        Kit.feed(x, "museum 5 keeps 5;xxx");
        x.end(18);
        x.feed(BLANKS, BLANKS, BLANKS, BLANKS, BLANKS);
        due("3: one is left", x.town(), NONE);
        due("3: at it", x.fault(1), 17);
    }

    // NONE, refused (1), with a FAULT (all stays)
    private static void p04Refused() {
        RotaMuseum x = busy();
        String[] wrong = {"", " ", "x", "museum 100 keeps 5;", "museum 5 keeps 5;rota x;", "museum 5 keeps 5;thing a worth 1 hangs 1;gang a at 1;",
            "museum 5 keeps 5;draws 1;draws 1;", "museum 5 keeps 5;draws ((((((((1", "museum 1 keeps 1;thing z worth 1 hangs 1"};
        int[] kinds = {1, 1, 1, 4, 3, 2, 6, 5, 1};
        int[] places = {0, 1, 0, 7, 22, 46, 25, 30, 40};
        // All but what fault() tells.
        String before = Kit.state(x).replaceFirst("fault \\S+ \\S+", "");
        int can = x.gang(0, 2);
        int best = x.best(4, 1);
        int rota = x.rota(7, NONE);
        for (int i = 0; i < wrong.length; i++) {
            due("4: " + wrong[i], Kit.town(x, wrong[i]), NONE);
            due("4: fault", x.fault(0), kinds[i]);
            due("4: place", x.fault(1), places[i]);
            due("4: refused", x.status(1), i + 1);
            due("4: the tape goes", x.end(1), false);
            due("4: all stays", Kit.state(x).replaceFirst("fault \\S+ \\S+", "").equals(before), true);
        }
        due("4: can take", x.gang(0, 2), can);
        due("4: best", x.best(4, 1), best);
        due("4: rota", x.rota(7, NONE), rota);
        due("4: turn", x.turn(1), 1);
        due("4: letter", x.letter(1, 1, 0), 8);
        due("4: place", x.gang(1, 0), 70);
        due("4: undo", x.undo(), true);
    }

    // Without one all is as at first, nothing is KEPT, no ACT can be undone; the seed stays.
    private static void p04() {
        for (String next : new String[] {SMALL, FULL, "museum 0 keeps 1;"}) {
            RotaMuseum x = busy();
            x.steal(0);
            int seed = x.has(10);
            due("4: a seed of chance", seed != 1, true);
            RotaMuseum y = new RotaMuseum();
            Kit.town(y, next);
            Kit.town(x, next);
            due("4: the tape goes", x.end(1), false);
            due("4: the seed stays", x.has(10), seed);
            due("4: nothing is kept", x.has(8), 0);
            due("4: none told", x.kept(0, 0), NONE);
            due("4: no act", x.has(9), 0);
            Kit.refuses("4: no undo", x, 4, () -> !x.undo());
            due("4: night", x.has(3), 0);
            due("4: none seen", x.when(0), NONE);
            y.seed(seed);
            y.undo();
            x.image();
            y.image();
            due("4: as a new one", Kit.state(x).equals(Kit.state(y)), true);
            for (int gang = 0; gang < 6; gang++) {
                for (int what = 0; what < 19; what++) {
                    due("4: gang " + gang + ", " + what, x.gang(gang, what), y.gang(gang, what));
                }
            }
            due("4: later", x.later(30, 10), y.later(30, 10));
            due("4: best", x.best(2, 1), y.best(2, 1));
            due("4: rota", x.rota(9, NONE), y.rota(9, NONE));
        }
    }

    // 0 without, and ahead of any .. NONE without .. NONE for another what
    private static void p05() {
        RotaMuseum x = new RotaMuseum();
        due("5: ahead of any", x.fault(0), 0);
        due("5: ahead of any", x.fault(1), NONE);
        for (int round = 0; round < 3; round++) {
            for (int what : new int[] {-1, 2, 3, MIN, MAX}) {
                due("5: another", x.fault(what), NONE);
            }
            Kit.town(x, round == 0 ? "museum 5 keeps 31;" : SMALL);
            due("5: its fault", x.fault(0), round == 0 ? 4 : 0);
            due("5: its place", x.fault(1), round == 0 ? 15 : NONE);
        }
        Kit.town(x, "");
        due("5: of the latest", x.fault(0), 1);
        due("5: of the latest", x.fault(1), 0);
        Kit.feed(x, 9, 9);
        x.looked();
        x.on();
        due("5: of the latest town() alone", x.fault(0), 1);
    }

    private static void p06() {
        int[] small = {2, 2, 1, 0, 2, 2, 17, 0, 0, 0, 1};
        int[] full = {8, 6, 6, 0, 12, 8, 748, 0, 0, 0, 1};
        RotaMuseum x = Kit.museum(SMALL);
        RotaMuseum y = Kit.museum(FULL);
        for (int what = 0; what <= 10; what++) {
            due("6: small, " + what, x.has(what), small[what]);
            due("6: full, " + what, y.has(what), full[what]);
        }
        for (int what : new int[] {-1, -2, 11, 12, MIN, MAX}) {
            due("6: others", x.has(what), NONE);
        }
        for (int t = 0; t < 8; t++) {
            y.steal(t);
            due("6: hang", y.has(5), 7 - t);
            due("6: worth", y.has(6), 748 - 90 * (t + 1) - t * (t + 1) / 2);
            due("6: stolen", y.has(7), t + 1);
        }
        due("6: acts", y.has(9), 8);
        x.seed(MAX);
        due("6: the greatest seed", x.has(10), MAX);
    }

    private static void p07() {
        RotaMuseum x = Kit.museum(FULL);
        int[] counts = {8, 6, 6};
        String[] names = {"thing", "gang", "v"};
        for (int kind = 0; kind < 3; kind++) {
            for (int which : new int[] {0, counts[kind] - 1}) {
                String name = names[kind] + (char) ('a' + which);
                for (int k = 0; k < 6; k++) {
                    due("7: " + name + " " + k, x.letter(kind, which, k), k < name.length() ? name.charAt(k) - 'a' + 1 : 0);
                }
                for (int k : new int[] {-1, 6, 7, MIN, MAX}) {
                    due("7: k " + k, x.letter(kind, which, k), NONE);
                }
            }
            for (int which : new int[] {-1, counts[kind], counts[kind] + 1, MIN, MAX}) {
                due("7: which " + which, x.letter(kind, which, 0), NONE);
            }
        }
        for (int kind : new int[] {-1, 3, 4, MIN, MAX}) {
            due("7: kind " + kind, x.letter(kind, 0, 0), NONE);
        }
        RotaMuseum none = Kit.museum("museum 1 keeps 1;");
        for (int kind = 0; kind < 3; kind++) {
            due("7: none", none.letter(kind, 0, 0), NONE);
        }
        RotaMuseum y = Kit.museum("museum 1 keeps 1;thing a worth 1 hangs 1;gang z at 1;");
        due("7: a is 1", y.letter(0, 0, 0), 1);
        due("7: z is 26", y.letter(1, 0, 0), 26);
    }

    private static void p08() {
        RotaMuseum x = Kit.museum(FULL);
        for (int t : new int[] {0, 7}) {
            int[] want = {90 + t, 20 + t, 0, 20 + t};
            for (int what = 0; what < 4; what++) {
                due("8: thing " + t + ", " + what, x.thing(t, what), want[what]);
            }
            for (int what : new int[] {-1, 4, 5, MIN, MAX}) {
                due("8: others", x.thing(t, what), NONE);
            }
        }
        for (int t : new int[] {-1, 8, 9, MIN, MAX}) {
            for (int what = 0; what < 4; what++) {
                due("8: none such", x.thing(t, what), NONE);
            }
        }
        RotaMuseum y = Kit.museum(SMALL);
        due("8: the last of two", y.thing(1, 0), 7);
        due("8: no third", y.thing(2, 0), NONE);
        Kit.put(x, 0, 0, 0, 1, 1, 2, 2, 3, 3, 4, 4, 5, 5, 6, 6, STOLEN, 999);
        for (int t = 0; t < 8; t++) {
            due("8: where", x.thing(t, 2), t < 7 ? t : STOLEN);
            due("8: nights", x.thing(t, 3), t < 7 ? t : 999);
        }
    }

    private static void p09() {
        RotaMuseum x = Kit.museum(FULL);
        Kit.put(x, 5, 1, 0, 6, 0, 0, 22, 0, 22, 0, 25, 0, 24, 6, 5, 6, 0);
        // The third has hung as long as it must, the fourth a night less, the fifth a night more, the sixth a night less.
        int[] first = {70, 1, 4 + 16, 6};
        int[] last = {75, 128 + 64 + 2, 4 + 16, 2};
        for (int what = 0; what < 4; what++) {
            due("9: the first, " + what, x.gang(0, what), first[what]);
            due("9: the last, " + what, x.gang(5, what), last[what]);
        }
        for (int t = 0; t < 8; t++) {
            due("9: the first wants", x.gang(0, 10 + t), t == 0 ? 1 : 0);
            due("9: the last wants", x.gang(5, 10 + t), t == 7 ? 99 : 0);
        }
        for (int what : new int[] {-1, 4, 5, 9, 18, 19, MIN, MAX}) {
            due("9: others", x.gang(0, what), NONE);
        }
        for (int g : new int[] {-1, 6, 7, MIN, MAX}) {
            for (int what : new int[] {0, 1, 2, 3, 10}) {
                due("9: none such", x.gang(g, what), NONE);
            }
        }
        RotaMuseum y = Kit.museum(SMALL);
        due("9: no third", y.gang(2, 0), NONE);
        due("9: wants the second", y.gang(1, 11), 9);
        due("9: wants no third", y.gang(1, 12), NONE);
        due("9: no turn", Kit.museum("museum 1 keeps 1;gang g at 0;").gang(0, 3), 0);
    }

    // as if it were its turn on this NIGHT, with nothing brought back
    private static void p09Can() {
        RotaMuseum x = Kit.museumOn("museum 5 keeps 3;thing a worth 1 hangs 0;thing b worth 1 hangs 1;thing c worth 0 hangs 0;gang g at 1;gang h at 1;rota g;"
            + "may night=7 and has<1;draws 0;", 7, 2, 9, 0, 1, 0, 0);
        due("9: a is not brought back, draws does not matter", x.gang(0, 2), 6);
        due("9: h has one", x.gang(1, 2), 0);
        Kit.put(x, 7, 0, 0, 0, 0, 0, 0);
        due("9: though it has no turn", x.gang(1, 2), 5);
        Kit.put(x, 8, 0, 0, 0, 1, 0, 0);
        due("9: on this night", x.gang(1, 2), 0);
        Kit.put(x, 6, 0, 0, 0, 1, 0, 0);
        due("9: on this night", x.gang(1, 2), 0);
    }

    private static void p10() {
        RotaMuseum x = Kit.museum(FULL);
        int[] turns = {5, 4, 3, 2, 1, 0, 0, 0, 0, 0, 0, 5};
        for (int k = 0; k < 12; k++) {
            due("10: turn " + k, x.turn(k), turns[k]);
        }
        for (int k : new int[] {-1, 12, 13, MIN, MAX}) {
            due("10: none such", x.turn(k), NONE);
        }
        RotaMuseum y = Kit.museum("museum 1 keeps 1;gang g at 0;rota g;");
        due("10: one", y.turn(0), 0);
        due("10: no second", y.turn(1), NONE);
        due("10: no rota", Kit.museum("museum 1 keeps 1;gang g at 0;").turn(0), NONE);
    }

    private static void p11() {
        RotaMuseum x = Kit.museum(FULL);
        for (int what = -2; what < 13; what++) {
            due("11: full, what " + what, x.later(0, what), what == 10 ? 748 : what >= 0 && what < 8 ? 0 : NONE);
        }
        RotaMuseum y = Kit.museum(SMALL);
        for (int what = -2; what < 13; what++) {
            due("11: small, what " + what, y.later(0, what), what == 10 ? 17 : what >= 0 && what < 2 ? 0 : NONE);
        }
        for (int wrong : new int[] {-1, 61, MIN, MAX}) {
            due("11: n", x.later(wrong, 0), NONE);
            due("11: n", x.later(wrong, 10), NONE);
        }
        for (int wrong : new int[] {-1, 11, 255, MIN, MAX}) {
            due("11: what", x.later(1, wrong), NONE);
        }
        x.steal(7);
        due("11: where it is, as thing() tells it", x.later(60, 7), STOLEN);
    }

    private static void p12() {
        due("12: the first", Kit.museum("museum 1 keeps 1;gang g at 0;rota g;").idle(), 1);
        due("12: the second", Kit.museum("museum 1 keeps 9;thing t worth 1 hangs 0;gang g at 0;rota g;").idle(), 2);
        RotaMuseum x = Kit.museum(FULL);
        due("12: eight things", x.idle(), 9);
        x.nights(8);
        due("12: the next one", x.idle(), 1);
        x = Kit.museum("museum 1 keeps 1;thing t worth 1 hangs 0;gang g at 0;rota g;");
        due("12: none", x.idle(), NONE);
    }

    private static void p13() {
        RotaMuseum x = Kit.museum(FULL);
        due("13: the last thing", x.best(1, 0), 7);
        due("13: worth", x.best(1, 1), 99);
        for (int n : new int[] {-1, 0, 5, 6, 60, MIN, MAX}) {
            due("13: n " + n, x.best(n, 0), NONE);
            due("13: n " + n, x.best(n, 1), NONE);
        }
        for (int what : new int[] {-1, 2, 3, MIN, MAX}) {
            due("13: what " + what, x.best(1, what), NONE);
        }
        for (int n = 1; n <= 4; n++) {
            due("13: by " + n, x.best(n, 1), 99);
        }
    }

    private static void p14() {
        RotaMuseum x = Kit.museum(FULL);
        due("14: worth of all but the first, or the last", x.rota(1, NONE), 748 - 97);
        for (int k = -3; k <= 8; k++) {
            due("14: k " + k, x.rota(1, k) != NONE, k >= -1 && k <= 5);
        }
        for (int k : new int[] {-2, 6, MIN, MAX}) {
            due("14: k " + k, x.rota(1, k), NONE);
        }
        for (int n : new int[] {-1, 0, 61, 62, MIN, MAX}) {
            due("14: n " + n, x.rota(n, NONE), NONE);
            due("14: n " + n, x.rota(n, 0), NONE);
        }
        boolean[] met = new boolean[6];
        for (int k = 0; k < 6; k++) {
            int gang = x.rota(60, k);
            due("14: each once", gang >= 0 && gang < 6 && !met[gang], true);
            met[Math.floorMod(gang, 6)] = true;
        }
    }

    private static void p15To17() {
        RotaMuseum x = Kit.museum(FULL);
        for (int v = -2; v <= 8; v++) {
            boolean is = v >= 0 && v < 6;
            due("15: visitor " + v, x.sees(v), is ? 0 : NONE);
            due("16: visitor " + v, x.way(v), is ? 0 : NONE);
        }
        for (int wrong : new int[] {MIN, MAX}) {
            due("15: none such", x.sees(wrong), NONE);
            due("16: none such", x.way(wrong), NONE);
            due("17: none such", x.waits(wrong, 0), NONE);
            due("17: none such", x.waits(wrong, 2), NONE);
            due("17: others", x.waits(0, wrong), NONE);
        }
        for (int g = -2; g <= 8; g++) {
            for (int what = -2; what <= 5; what++) {
                due("17: gang " + g + ", " + what, x.waits(g, what), g >= 0 && g < 6 && what == 2 ? 0 : NONE);
            }
        }
        Kit.put(x, 0, 6, 0, 0, 0, 0, 0, 0, 0, 0, 0, 0, 0, 0, 0, 1, 0);
        due("15: behind the 31st", x.sees(0), 31);
        due("16: from 9 to 75", x.way(0), 66);
        due("17: the first for the last", x.waits(0, 0), 5);
        due("17: the last for the first", x.waits(5, 0), 0);
        due("17: for the first thing", x.waits(0, 1), 0);
        due("17: for the last thing", x.waits(5, 1), 7);
        due("17: ring", x.waits(5, 2), 2);
        RotaMuseum none = Kit.museum("museum 1 keeps 1;");
        due("15: none", none.sees(0), NONE);
        due("16: none", none.way(0), NONE);
        due("17: none", none.waits(0, 2), NONE);
    }

    private static boolean isNoLook(RotaMuseum x, int... rows) {
        Kit.feed(x, rows);
        return x.looked() == NONE && !x.end(1);
    }

    private static int[] rows(int count, int... row) {
        int[] all = new int[count * row.length];
        for (int i = 0; i < all.length; i++) {
            all[i] = row[i % row.length];
        }
        return all;
    }

    // 1 to 16 rows of two bytes .. NONE, refused (5), when it is none such
    private static void p18() {
        RotaMuseum x = busy();
        for (int n : new int[] {1, 2, 15, 16}) {
            Kit.feed(x, rows(n, 0, 0));
            due("18: " + n + " rows", x.looked() >= 0, true);
            due("18: the tape goes", x.end(1), false);
        }
        RotaMuseum y = busy();
        for (int n : new int[] {0, 17, 18, 800}) {
            refusesTape("18: " + n + " rows", y, () -> y.looked() == NONE, rows(n, 0, 0));
        }
        for (int[] wrong : new int[][] {{0}, {0, 0, 0}, rows(33, 0), rows(31, 0), rows(1599, 0), {2, 0}, {255, 0}, {0, 2}, {0, 255}, {0, 128}, {1, 1, 2, 0},
            {1, 1, 0, 2}, {128, 0}}) {
            refusesTape("18: wrong rows of " + wrong.length, y, () -> y.looked() == NONE, wrong);
        }
        due("18: one wrong row of 16", isNoLook(y, 0, 0, 0, 0, 0, 0, 0, 0, 0, 0, 0, 0, 0, 0, 0, 0, 0, 0, 0, 0, 0, 0, 0, 0, 0, 0, 0, 0, 0, 0, 2, 0), true);
        RotaMuseum full = Kit.museum(FULL);
        Kit.feed(full, 7, 1);
        due("18: the last of eight", full.looked() >= 1, true);
        due("18: no ninth", isNoLook(full, 8, 1), true);
        RotaMuseum none = Kit.museum("museum 1 keeps 1;");
        due("18: no thing", isNoLook(none, 0, 1), true);
        due("18: no thing", isNoLook(none, 0, 0), true);
    }

    // A call that takes the tape and must be refused: all else stays, but the tape goes.
    private static void refusesTape(String what, RotaMuseum x, BooleanSupplier call, int... bytes) {
        Kit.feed(x, bytes);
        Kit.refuses(what, x, 5, call);
        due(what + ", the tape goes", x.feed(0, 0, 0, 0, 0), 20);
        x.end(0);
    }

    // Of the latest looked() of this TOWN that was not refused: the k-th such NIGHT AHEAD, as it was told then
    private static void p19() {
        RotaMuseum x = Kit.museum("museum 5 keeps 3;thing a worth 1 hangs 0;thing b worth 0 hangs 0;gang g at 1;");
        due("19: ahead of any", x.when(0), NONE);
        Kit.feed(x, 1, 1);
        due("19: all", x.looked(), 61);
        for (int k = 0; k <= 60; k++) {
            due("19: the " + k + "th", x.when(k), k);
        }
        for (int k : new int[] {-1, 61, 62, MIN, MAX}) {
            due("19: none such", x.when(k), NONE);
        }
        due("19: a refused one does not count", isNoLook(x, 9, 9), true);
        due("19: still", x.when(60), 60);
        x.nights(100);
        x.steal(1);
        due("19: as it was told then", x.when(60), 60);
        Kit.put(x, 9990, 0, 0, 0, 0);
        due("19: behind on(), the same town", x.when(60), 60);
        due("19: a town() at fault", Kit.town(x, "museum"), NONE);
        due("19: still", x.when(60), 60);
        Kit.feed(x, 1, 0);
        due("19: none", x.looked(), 0);
        due("19: the latest told none", x.when(0), NONE);
        Kit.feed(x, 1, 1);
        due("19: now and nine", x.looked(), 10);
        due("19: the last one", x.when(9), 9);
        due("19: none behind", x.when(10), NONE);
        Kit.town(x, "museum 5 keeps 3;");
        due("19: of this town", x.when(0), NONE);
    }

    private static boolean areNoLies(RotaMuseum x, int... rows) {
        Kit.feed(x, rows);
        return x.lies() == NONE && !x.end(1);
    }

    // 1 to 16 rows of three bytes .. NONE, refused (5), when it is none such
    private static void p20() {
        RotaMuseum x = busy();
        for (int n : new int[] {1, 2, 15, 16}) {
            Kit.feed(x, rows(n, 1, 1, 0));
            due("20: " + n + " rows", x.lies() >= 0, true);
            due("20: the tape goes", x.end(1), false);
        }
        RotaMuseum y = busy();
        for (int n : new int[] {0, 17, 18, 500}) {
            refusesTape("20: " + n + " rows", y, () -> y.lies() == NONE, rows(n, 0, 0, 0));
        }
        for (int[] wrong : new int[][] {{0}, {0, 0}, {0, 0, 0, 0}, {0, 0, 0, 0, 0}, rows(47, 0), rows(49, 0), {2, 0, 0}, {255, 0, 0}, {0, 2, 0}, {0, 255, 0},
            {0, 0, 2}, {0, 0, 255}, {1, 1, 1, 2, 1, 1}, {1, 1, 1, 1, 2, 1}, {1, 1, 1, 1, 1, 2}}) {
            refusesTape("20: wrong rows of " + wrong.length, y, () -> y.lies() == NONE, wrong);
        }
        RotaMuseum full = Kit.museum(FULL);
        Kit.feed(full, 5, 7, 1);
        due("20: the last ones", full.lies(), 1);
        due("20: no seventh gang", areNoLies(full, 6, 7, 1), true);
        due("20: no ninth thing", areNoLies(full, 5, 8, 1), true);
        Kit.feed(full, 0, 0, 1, 1, 1, 1, 2, 2, 1, 3, 3, 1, 4, 4, 1, 5, 5, 1);
        due("20: all six", full.lies(), 6);
        due("20: no gang", areNoLies(Kit.museum("museum 1 keeps 1;thing t worth 1 hangs 1;"), 0, 0, 0), true);
        due("20: no thing", areNoLies(Kit.museum("museum 1 keeps 1;gang g at 1;"), 0, 0, 0), true);
    }

    // n NIGHTS go by (1 .. 100) .. NONE, refused (2), when it can't be (beyond NIGHT 9999)
    private static void p21() {
        RotaMuseum x = busy();
        for (int n : new int[] {-1, 0, 101, 102, 9999, MIN, MAX}) {
            Kit.refuses("21: " + n, x, 2, () -> x.nights(n) == NONE);
        }
        int night = x.has(3);
        for (int n : new int[] {1, 2, 99, 100}) {
            due("21: " + n, x.nights(n) >= 0, true);
            night += n;
            due("21: night", x.has(3), night);
        }
        for (int at : new int[] {9898, 9899, 9900, 9901, 9997, 9998, 9999}) {
            Kit.put(x, at, 0, 0, 0, 0);
            int left = 9999 - at;
            for (int n : new int[] {left + 1, left + 2}) {
                Kit.refuses("21: beyond 9999 by " + n + " of " + at, x, 2, () -> x.nights(n) == NONE);
            }
            if (left >= 1 && left <= 100) {
                due("21: to 9999", x.nights(left) >= 0, true);
                due("21: 9999", x.has(3), 9999);
            }
        }
    }

    // how many THINGS were taken
    private static void p21Taken() {
        String town = "museum 5 keeps 1;thing t worth 1 hangs 0;gang g at 1;rota g;";
        for (int n : new int[] {1, 2, 60, 61, 99, 100}) {
            due("21: each night", Kit.museum(town).nights(n), n);
            due("21: none", Kit.museum(town + "may not all;").nights(n), 0);
            due("21: on the first night alone", Kit.museum(town + "may night=0;").nights(n), 1);
            due("21: on the last night, too", Kit.museum(town + "may night=" + (n - 1) + ";").nights(n), 1);
            due("21: not on the one behind", Kit.museum(town + "may night=" + n + ";").nights(n), 0);
        }
    }

    private static void p22() {
        RotaMuseum x = busy();
        for (int n : new int[] {-1, 0, 101, 102, 9999, MIN, MAX}) {
            Kit.refuses("22: " + n, x, 2, () -> x.chance(n) == NONE);
        }
        int night = x.has(3);
        int acts = x.has(9);
        for (int n : new int[] {1, 2, 99, 100}) {
            due("22: " + n, x.chance(n) >= 0, true);
            night += n;
            acts++;
            due("22: night", x.has(3), night);
            due("22: one act", x.has(9), acts);
        }
        for (int at : new int[] {9898, 9899, 9900, 9901, 9997, 9998, 9999}) {
            Kit.put(x, at, 0, 0, 0, 0);
            int left = 9999 - at;
            for (int n : new int[] {left + 1, left + 2}) {
                Kit.refuses("22: beyond 9999 by " + n + " of " + at, x, 2, () -> x.chance(n) == NONE);
            }
            if (left >= 1 && left <= 100) {
                due("22: to 9999", x.chance(left) >= 0, true);
                due("22: 9999", x.has(3), 9999);
            }
        }
    }

    // A THING is STOLEN .. false, refused (3), when there is none such, or it is so already
    private static void p23() {
        RotaMuseum x = Kit.museum(FULL);
        Kit.put(x, 3, 0, 0, 1, 1, 6, 2, 0, 3, 0, 4, 0, 5, 0, 6, STOLEN, 7);
        for (int t : new int[] {-1, 8, 9, MIN, MAX}) {
            Kit.refuses("23: none such, " + t, x, 3, () -> !x.steal(t));
        }
        Kit.refuses("23: so already", x, 3, () -> !x.steal(7));
        for (int t : new int[] {0, 1, 2}) {
            due("23: stolen", x.steal(t), true);
            due("23: where", x.thing(t, 2), STOLEN);
            due("23: for 0 nights", x.thing(t, 3), 0);
            Kit.refuses("23: so already", x, 3, () -> !x.steal(t));
        }
        due("23: three acts", x.has(9), 3);
        RotaMuseum y = Kit.museum(SMALL);
        Kit.refuses("23: no third", y, 3, () -> !y.steal(2));
        due("23: the second", y.steal(1), true);
        due("23: undone", y.undo(), true);
        due("23: it hangs", y.thing(1, 2), 0);
    }

    // A THING is brought back .. false, refused (3), when there is none such, or it hangs
    private static void p24() {
        RotaMuseum x = Kit.museum(FULL);
        Kit.put(x, 3, 0, 0, 1, 1, 6, 2, 0, 3, 0, 4, 0, 5, 0, 6, STOLEN, 7);
        for (int t : new int[] {-1, 8, 9, MIN, MAX}) {
            Kit.refuses("24: none such, " + t, x, 3, () -> !x.back(t));
        }
        Kit.refuses("24: it hangs", x, 3, () -> !x.back(0));
        for (int t : new int[] {1, 2, 7}) {
            due("24: back", x.back(t), true);
            due("24: where", x.thing(t, 2), 0);
            due("24: for 0 nights", x.thing(t, 3), 0);
            Kit.refuses("24: it hangs", x, 3, () -> !x.back(t));
        }
        due("24: three acts", x.has(9), 3);
        x.undo();
        due("24: undone", x.thing(7, 2), STOLEN);
        due("24: for as long", x.thing(7, 3), 7);
        RotaMuseum y = Kit.museum(SMALL);
        Kit.refuses("24: no third", y, 3, () -> !y.back(2));
    }

    // false, refused (3), when these are not had by two unlike GANGS, or there are none such
    private static void p25() {
        RotaMuseum x = Kit.museum(FULL);
        Kit.put(x, 3, 1, 1, 6, 2, 6, 3, 0, 4, 0, 5, STOLEN, 6, STOLEN, 7, 2, 8);
        int[][] wrong = {{-1, 0}, {0, -1}, {8, 0}, {0, 8}, {MIN, 0}, {0, MAX}, {MAX, MIN}, {-1, -1}, {8, 8}, {0, 0}, {1, 2}, {2, 1}, {0, 3}, {3, 0}, {3, 4}, {3, 3},
            {0, 5}, {5, 0}, {5, 6}, {5, 5}, {3, 5}};
        for (int[] pair : wrong) {
            Kit.refuses("25: " + pair[0] + ", " + pair[1], x, 3, () -> !x.swap(pair[0], pair[1]));
        }
        due("25: the first and the last gang", x.swap(0, 1), true);
        due("25: where", x.thing(0, 2), 6);
        due("25: where", x.thing(1, 2), 1);
        due("25: nights", x.thing(0, 3) + x.thing(1, 3), 0);
        due("25: what it has", x.gang(5, 1), 5);
        Kit.refuses("25: one gang has both now", x, 3, () -> !x.swap(0, 2));
        due("25: the last thing", x.swap(7, 0), true);
        due("25: where", x.thing(7, 2), 6);
        due("25: where", x.thing(0, 2), 2);
        due("25: two acts", x.has(9), 2);
        x.undo();
        due("25: undone", x.thing(7, 2), 2);
        due("25: for as long", x.thing(7, 3), 8);
        due("25: undone", x.thing(0, 2), 6);
    }

    // all is as it was ahead of it (but the seed)
    private static void p26() {
        RotaMuseum x = busy();
        Kit.put(x, 5, 1, 1, 2, 2);
        x.nights(1);
        String[] was = new String[6];
        int[] seeds = new int[6];
        for (int act = 0; act < 5; act++) {
            was[act] = withoutSeed(Kit.state(x));
            seeds[act] = x.has(10);
            if (act == 0) {
                due("26: swap", x.swap(0, 1), true);
            } else if (act == 1) {
                due("26: steal", x.steal(0), true);
            } else if (act == 2) {
                due("26: back", x.back(1), true);
            } else if (act == 3) {
                due("26: chance", x.chance(7) >= 0, true);
            } else {
                due("26: nights", x.nights(70) > 0, true);
            }
        }
        int seed = x.has(10);
        due("26: another seed", seed != seeds[0], true);
        for (int act = 4; act >= 0; act--) {
            due("26: undo " + act, x.undo(), true);
            due("26: as it was ahead of " + act, withoutSeed(Kit.state(x)).equals(was[act]), true);
            due("26: the seed stays", x.has(10), seed);
        }
        due("26: the first one", x.undo(), true);
        due("26: night 5", x.has(3), 5);
        Kit.refuses("26: none can be", x, 4, () -> !x.undo());
        x.seed(3);
        Kit.refuses("26: nor the seed", x, 4, () -> !x.undo());
    }

    private static String withoutSeed(String state) {
        return state.replaceFirst("has(( \\S+){10}) \\S+", "has$1");
    }

    private static void p27() {
        RotaMuseum x = busy();
        for (int seed : new int[] {-1, -2, MIN}) {
            Kit.refuses("27: below 0", x, 5, () -> !x.seed(seed));
        }
        for (int seed : new int[] {0, 1, 2, MAX - 1, MAX}) {
            due("27: seed", x.seed(seed), true);
            due("27: has", x.has(10), seed);
        }
        Kit.refuses("27: below 0", x, 5, () -> !x.seed(-1));
        due("27: still", x.has(10), MAX);
    }

    private static void p28() {
        RotaMuseum x = Kit.museum("museum 5 keeps 1;thing t worth 1 hangs 0;gang g at 1;gang h at 1;rota g h;");
        for (int n = 0; n <= 62; n++) {
            int told = Math.min(60, n);
            due("28: told", x.has(8), told);
            due("28: none behind", x.kept(told, 0), NONE);
            if (n > 0) {
                due("28: the newest", x.kept(told - 1, 0), n - 1);
                due("28: the oldest", x.kept(0, 0), n - told);
            }
            x.nights(1);
        }
        for (int k : new int[] {-1, 60, 61, MIN, MAX}) {
            for (int what = 0; what < 3; what++) {
                due("28: none such", x.kept(k, what), NONE);
            }
        }
        for (int what : new int[] {-1, 3, 4, MIN, MAX}) {
            due("28: others", x.kept(0, what), NONE);
            due("28: others", x.kept(59, what), NONE);
        }
    }

    private static void p29And30() {
        RotaMuseum x = Kit.museum(FULL);
        for (int k : new int[] {-1, 0, 1, MIN, MAX}) {
            due("30: ahead of any", x.octet(k), NONE);
        }
        due("29: 27 bytes", x.image(), 27);
        for (int k : new int[] {-1, 27, 28, MIN, MAX}) {
            due("30: none such", x.octet(k), NONE);
        }
        due("30: the first", x.octet(0), 0);
        due("30: the last nights", x.octet(25), 27);
        due("30: the last", x.octet(26) >= 0 && x.octet(26) <= 250, true);
        x.nights(1);
        due("30: of the latest image", x.octet(1), 0);
        due("29: again", x.image(), 27);
        due("30: of the latest image", x.octet(1), 1);
        due("29: it is no act", x.has(9), 1);
        Kit.town(x, "museum 1 keeps 1;");
        due("29: 3 bytes", x.image(), 3);
        due("30: the last of 3", x.octet(2), 162);
        due("30: none behind", x.octet(3), NONE);
    }

    private static boolean isOn(RotaMuseum x, int... bytes) {
        Kit.feed(x, bytes);
        return x.on();
    }

    // true, all is as it tells, nothing is KEPT, no ACT can be undone
    private static void p31() {
        for (int night : new int[] {0, 1, 255, 256, 9998, 9999}) {
            RotaMuseum x = busy();
            int seed = x.has(10);
            due("31: night " + night, isOn(x, Kit.image(night, 0, 999, 2, 998)), true);
            due("31: night", x.has(3), night);
            due("31: where", x.thing(0, 2), 0);
            due("31: nights", x.thing(0, 3), 999);
            due("31: where", x.thing(1, 2), 2);
            due("31: nights", x.thing(1, 3), 998);
            due("31: nothing is kept", x.has(8), 0);
            due("31: none told", x.kept(0, 0), NONE);
            due("31: no act", x.has(9), 0);
            Kit.refuses("31: no undo", x, 4, () -> !x.undo());
            due("31: the seed stays", x.has(10), seed);
            due("31: the tape goes", x.end(1), false);
        }
        RotaMuseum y = busy();
        int bytes = y.image();
        int[] image = new int[bytes];
        for (int k = 0; k < bytes; k++) {
            image[k] = y.octet(k);
        }
        String was = y.thing(0, 2) + " " + y.thing(0, 3) + " " + y.thing(1, 2) + " " + y.thing(1, 3) + " " + y.has(3);
        y.nights(5);
        y.steal(0);
        due("31: its own image", isOn(y, image), true);
        due("31: all is as it tells", (y.thing(0, 2) + " " + y.thing(0, 3) + " " + y.thing(1, 2) + " " + y.thing(1, 3) + " " + y.has(3)).equals(was), true);
    }

    // false, refused (5), all staying, if it is none such (NIGHT 9999, nights 999 at most; GANGS that there are)
    private static void p31Refused() {
        RotaMuseum x = busy();
        int[][] wrong = {Kit.image(10000, 0, 0, 0, 0), Kit.image(10001, 0, 0, 0, 0), Kit.image(65535, 0, 0, 0, 0), Kit.image(1, 0, 1000, 0, 0),
            Kit.image(1, 0, 0, 0, 1000), Kit.image(1, 0, 65535, 0, 0), Kit.image(1, 2, 1001, 0, 0), Kit.image(1, 255, 1000, 0, 0), Kit.image(1, 3, 0, 0, 0),
            Kit.image(1, 0, 0, 3, 0), Kit.image(1, 254, 0, 0, 0), Kit.image(1, 0, 0, 254, 0), Kit.image(1, 128, 0, 0, 0), {}, {0}, {0, 0}, Kit.image(1),
            Kit.image(1, 0, 0), Kit.image(1, 0, 0, 0, 0, 0, 0)};
        for (int i = 0; i < wrong.length; i++) {
            refusesTape("31: wrong image " + i, x, () -> !x.on(), wrong[i]);
        }
        int[] right = Kit.image(1, 0, 0, 0, 0);
        int[] less = Arrays.copyOf(right, right.length - 1);
        int[] more = Arrays.copyOf(right, right.length + 1);
        refusesTape("31: a byte less", x, () -> !x.on(), less);
        refusesTape("31: a byte more", x, () -> !x.on(), more);
        due("31: the right one", isOn(x, right), true);
        RotaMuseum full = Kit.museum(FULL);
        due("31: six gangs", isOn(full, Kit.image(1, 6, 0, 0, 0, 0, 0, 0, 0, 0, 0, 0, 0, 0, 0, 6, 999)), true);
        due("31: no seventh", isOn(full, Kit.image(1, 7, 0, 0, 0, 0, 0, 0, 0, 0, 0, 0, 0, 0, 0, 6, 0)), false);
        due("31: no seventh", isOn(full, Kit.image(1, 6, 0, 0, 0, 0, 0, 0, 0, 0, 0, 0, 0, 0, 0, 7, 0)), false);
        RotaMuseum none = Kit.museum("museum 1 keeps 1;thing t worth 1 hangs 1;");
        due("31: no gang", isOn(none, Kit.image(1, 1, 0)), false);
        due("31: stolen, without gangs", isOn(none, Kit.image(1, 255, 0)), true);
    }

    // last a byte: all ahead from 137 on, c = (5 c + it) mod 251
    private static void p31LastByte() {
        boolean[] met = new boolean[251];
        for (int night = 0; night < 251; night++) {
            int[] image = Kit.image(night);
            int right = image[2];
            met[right] = true;
            RotaMuseum x = Kit.museum("museum 1 keeps 1;");
            for (int last = 0; last < 256; last += night < 3 ? 1 : 51) {
                image[2] = last;
                due("31: last byte " + last + " of " + night, isOn(x, image), last == right);
            }
            for (int last : new int[] {right - 1, right, right + 1, right + 251}) {
                if (last >= 0 && last < 256) {
                    image[2] = last;
                    due("31: last byte " + last + " of " + night, isOn(x, image), last == right);
                }
            }
        }
        due("31: 0 was met", met[0], true);
        due("31: 250 was met", met[250], true);
    }

    private static void p32() {
        RotaMuseum x = Kit.museum(SMALL);
        for (int what : new int[] {-1, 6, 7, MIN, MAX}) {
            due("32: others", x.status(what), NONE);
        }
        for (int i = 1; i <= 20; i++) {
            x.end(-1);
            x.town();
            x.nights(0);
            x.chance(0);
            x.steal(-1);
            x.back(-1);
            x.swap(0, 0);
            x.undo();
            x.seed(-1);
            x.looked();
            x.lies();
            x.on();
            int[] want = {i, i, 2 * i, 3 * i, i, 4 * i};
            for (int what = 0; what < 6; what++) {
                due("32: status " + what, x.status(what), want[what]);
            }
        }
        // What only answers NONE is not refused.
        x.fault(2);
        x.has(11);
        x.letter(9, 9, 9);
        x.thing(9, 9);
        x.gang(9, 9);
        x.turn(99);
        x.later(61, 0);
        x.best(5, 0);
        x.rota(61, 0);
        x.sees(9);
        x.way(9);
        x.waits(9, 9);
        x.when(99);
        x.kept(99, 0);
        x.octet(99);
        x.status(9);
        int[] want = {20, 20, 40, 60, 20, 80};
        for (int what = 0; what < 6; what++) {
            due("32: status " + what, x.status(what), want[what]);
        }
        // A new TOWN, an image, undo() leave the counts.
        Kit.town(x, SMALL);
        isOn(x, Kit.image(1, 0, 0, 0, 0));
        x.nights(1);
        x.undo();
        for (int what = 0; what < 6; what++) {
            due("32: status " + what, x.status(what), want[what]);
        }
    }

    public static void main(String[] args) {
        p01();
        p02();
        p02Order();
        p03();
        p03Cut();
        p04Refused();
        p04();
        p05();
        p06();
        p07();
        p08();
        p09();
        p09Can();
        p10();
        p11();
        p12();
        p13();
        p14();
        p15To17();
        p18();
        p19();
        p20();
        p21();
        p21Taken();
        p22();
        p23();
        p24();
        p25();
        p26();
        p27();
        p28();
        p29And30();
        p31();
        p31Refused();
        p31LastByte();
        p32();
        Kit.finish("EdgeCallTest");
    }
}
