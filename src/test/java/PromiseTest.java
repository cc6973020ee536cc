/** Each promise by hand: ordinary inputs, the edges that the document names, wrong inputs. */
public final class PromiseTest {
    private static final int NONE = RotaMuseum.NONE;
    private static final int[] WRONG = {-1, -2, Integer.MIN_VALUE, Integer.MAX_VALUE, 1000};
    // One gang takes a, then b; each comes back after 2 nights.
    private static final String PAIR = "museum 50 keeps 2;thing a worth 10 hangs 1;thing b worth 7 hangs 0;gang g at 40;gang h at 70;"
        + "rota g h;wants g a 5;wants h b 9;visitor v sees a;visitor w sees a b;";

    private static void due(String what, long got, long want) {
        Kit.due(what, got, want);
    }

    private static void due(String what, boolean got, boolean want) {
        Kit.due(what, got, want);
    }

    private static void p01NewObject() {
        RotaMuseum x = new RotaMuseum();
        for (int what = 0; what <= 9; what++) {
            due("1: has(" + what + ")", x.has(what), 0);
        }
        due("1: seed", x.has(10), 1);
        for (int what = 0; what <= 5; what++) {
            due("1: status", x.status(what), 0);
        }
        due("1: thing", x.thing(0, 0), NONE);
        due("1: gang", x.gang(0, 0), NONE);
        due("1: image", x.image(), 3);
        Kit.feed(x, Kit.image(77));
        due("1: on", x.on(), true);
        due("1: night", x.has(3), 77);
    }

    private static void p02Feed() {
        RotaMuseum x = new RotaMuseum();
        for (int i = 1; i <= 80; i++) {
            due("2: feed", x.feed(0, 0, 0, 0, 0), 20 * i);
        }
        due("2: one too many", x.feed(0, 0, 0, 0, 0), NONE);
        due("2: refused", x.status(0), 1);
        due("2: end", x.end(1581), true);
        due("2: still too many", x.feed(0, 0, 0, 0, 0), NONE);
        due("2: end", x.end(1580), true);
        due("2: feed", x.feed(0, 0, 0, 0, 0), 1600);
        // The highest byte first, also of a number below 0.
        x.end(0);
        x.feed(0x6d757365, 0x756d2035, 0x206b6565, 0x70732035, 0x3bff0000);
        x.end(18);
        due("2: town", x.town(), NONE);
        due("2: fault at the byte 255", x.fault(1), 17);
    }

    private static void p03End() {
        RotaMuseum x = new RotaMuseum();
        due("3: end(0)", x.end(0), true);
        due("3: end(1)", x.end(1), false);
        due("3: end(-1)", x.end(-1), false);
        due("3: end(min)", x.end(Integer.MIN_VALUE), false);
        due("3: refused", x.status(0), 3);
        x.feed(1, 2, 3, 4, 5);
        due("3: end(20)", x.end(20), true);
        due("3: end(21)", x.end(21), false);
        due("3: end(7)", x.end(7), true);
        due("3: end(8)", x.end(8), false);
        due("3: behind the 7", x.feed(1, 2, 3, 4, 5), 27);
    }

    private static void p04Town() {
        RotaMuseum x = Kit.museum(PAIR);
        x.seed(99);
        x.nights(3);
        x.steal(0);
        Kit.feed(x, 0, 0);
        x.looked();
        int seen = x.when(0);
        int night = x.has(3);
        due("4: with a fault", Kit.town(x, "museum 5"), NONE);
        due("4: all stays", x.has(3), night);
        due("4: acts stay", x.has(9), 2);
        due("4: things stay", x.has(0), 2);
        due("4: seen stays", x.when(0), seen);
        due("4: the tape goes", x.feed(0, 0, 0, 0, 0), 20);
        x.end(0);
        due("4: statements", Kit.town(x, PAIR), 10);
        due("4: night", x.has(3), 0);
        due("4: hang", x.has(5), 2);
        due("4: nights of a", x.thing(0, 3), 1);
        due("4: kept", x.has(8), 0);
        due("4: acts", x.has(9), 0);
        due("4: undo", x.undo(), false);
        due("4: seed", x.has(10), 99);
        due("4: seen is of the former town", x.when(0), NONE);
        due("4: refused", x.status(1), 1);
        // Nothing of the former town is left in a smaller one.
        due("4: smaller", Kit.town(x, "museum 1 keeps 1;thing a worth 3 hangs 0;gang g at 3;"), 3);
        due("4: no rota", x.has(4), 0);
        due("4: no wants", x.gang(0, 10), 0);
        due("4: no visitors", x.has(2), 0);
        due("4: can take", x.gang(0, 2), 1);
        // What was reckoned for the former town does not hold in the next one.
        due("4: best", x.best(1, 1), NONE);
        due("4: rota", x.rota(1, NONE), 0);
        Kit.town(x, "museum 1 keeps 1;thing a worth 8 hangs 0;gang g at 3;rota g;wants g a 4;draws 0;");
        due("4: best", x.best(1, 1), 4);
        due("4: rota", x.rota(1, NONE), 8);
        Kit.town(x, "museum 1 keeps 1;thing a worth 9 hangs 0;gang g at 3;rota g;wants g a 5;draws 0;");
        due("4: best", x.best(1, 1), 5);
        due("4: rota", x.rota(1, NONE), 9);
        due("4: the last wants and quarrel count",
            Kit.town(x, "museum 1 keeps 1;thing a worth 3 hangs 0;gang g at 3;rota g;wants g a 5;wants g a 0;quarrel 100;quarrel 0;"), 8);
        due("4: wants", x.gang(0, 10), 0);
        due("4: quarrels", x.chance(50), 0);
    }

    private static void p05Fault() {
        RotaMuseum x = new RotaMuseum();
        due("5: ahead of any", x.fault(0), 0);
        due("5: ahead of any", x.fault(1), NONE);
        Kit.town(x, "museum 5 keeps 5;gang g at 700;");
        due("5: kind", x.fault(0), 4);
        due("5: place", x.fault(1), 27);
        due("5: another", x.fault(2), NONE);
        for (int wrong : WRONG) {
            due("5: another", x.fault(wrong), NONE);
        }
        Kit.town(x, PAIR);
        due("5: without", x.fault(0), 0);
        due("5: without", x.fault(1), NONE);
    }

    private static void p06Has() {
        RotaMuseum x = Kit.museum(PAIR);
        int[] want = {2, 2, 2, 0, 2, 2, 17, 0, 0, 0, 1};
        for (int what = 0; what < want.length; what++) {
            due("6: has(" + what + ")", x.has(what), want[what]);
        }
        x.nights(2);
        x.steal(0);
        int[] then = {2, 2, 2, 2, 2, 0, 0, 1, 2, 2, 1};
        for (int what = 0; what < then.length; what++) {
            due("6: then has(" + what + ")", x.has(what), then[what]);
        }
        due("6: others", x.has(11), NONE);
        for (int wrong : WRONG) {
            due("6: others", x.has(wrong), NONE);
        }
    }

    private static void p07Letter() {
        RotaMuseum x = Kit.museum("museum 5 keeps 5;thing azbycx worth 1 hangs 1;thing z worth 1 hangs 1;gang bo at 1;visitor eve sees z;");
        String name = "azbycx";
        for (int k = 0; k < 6; k++) {
            due("7: letter", x.letter(0, 0, k), name.charAt(k) - 'a' + 1);
        }
        due("7: behind", x.letter(0, 1, 1), 0);
        due("7: behind", x.letter(1, 0, 5), 0);
        due("7: gang", x.letter(1, 0, 1), 15);
        due("7: visitor", x.letter(2, 0, 2), 5);
        due("7: k 6", x.letter(0, 0, 6), NONE);
        due("7: kind 3", x.letter(3, 0, 0), NONE);
        due("7: which 2", x.letter(0, 2, 0), NONE);
        for (int wrong : WRONG) {
            due("7: kind", x.letter(wrong, 0, 0), NONE);
            due("7: which", x.letter(0, wrong, 0), NONE);
            due("7: k", x.letter(0, 0, wrong), NONE);
        }
    }

    private static void p08Thing() {
        RotaMuseum x = Kit.museum(PAIR);
        due("8: worth", x.thing(0, 0), 10);
        due("8: must hang", x.thing(0, 1), 1);
        due("8: where", x.thing(0, 2), 0);
        due("8: nights", x.thing(0, 3), 1);
        x.nights(1);
        due("8: with g", x.thing(0, 2), 1);
        due("8: for a night", x.thing(0, 3), 1);
        x.nights(1);
        due("8: b with h", x.thing(1, 2), 2);
        x.steal(1);
        due("8: stolen", x.thing(1, 2), 255);
        due("8: for 0 nights", x.thing(1, 3), 0);
        x.nights(3);
        due("8: stolen for 3 nights", x.thing(1, 3), 3);
        due("8: others", x.thing(0, 4), NONE);
        due("8: none such", x.thing(2, 0), NONE);
        for (int wrong : WRONG) {
            due("8: thing", x.thing(wrong, 0), NONE);
            due("8: what", x.thing(0, wrong), NONE);
        }
        Kit.feed(x, Kit.image(5, 0, 998, 255, 999));
        x.on();
        x.nights(5);
        due("8: 999 at most", x.thing(1, 3), 999);
    }

    private static void p09Gang() {
        RotaMuseum x = Kit.museum("museum 5 keeps 1;thing a worth 1 hangs 2;thing b worth 9 hangs 0;thing c worth 9 hangs 0;gang g at 7;"
            + "gang h at 8;rota g g h g;wants h c 33;may has=0 and wants<9 or gone+night=2;");
        due("9: place", x.gang(1, 0), 8);
        due("9: has", x.gang(0, 1), 0);
        due("9: can", x.gang(0, 2), 7);
        due("9: can, by how it wants", x.gang(1, 2), 3);
        due("9: turns", x.gang(0, 3), 3);
        due("9: turns", x.gang(1, 3), 1);
        due("9: wants", x.gang(1, 12), 33);
        due("9: wants 0", x.gang(1, 11), 0);
        x.nights(1);
        due("9: has b", x.gang(0, 1), 2);
        due("9: b is not brought back yet, a hangs long enough", x.gang(0, 2), 5);
        due("9: h, gone and night 2", x.gang(1, 2), 5);
        due("9: others", x.gang(0, 4), NONE);
        due("9: others", x.gang(0, 9), NONE);
        due("9: others", x.gang(0, 13), NONE);
        due("9: none such", x.gang(2, 0), NONE);
        for (int wrong : WRONG) {
            due("9: gang", x.gang(wrong, 0), NONE);
            due("9: what", x.gang(0, wrong), NONE);
        }
    }

    private static void p10Turn() {
        RotaMuseum x = Kit.museum("museum 5 keeps 1;gang g at 7;gang h at 8;rota h g h h g h g g g h h g;");
        String rota = "101101000110";
        for (int k = 0; k < 12; k++) {
            due("10: turn", x.turn(k), rota.charAt(k) - '0');
        }
        due("10: none such", x.turn(12), NONE);
        for (int wrong : WRONG) {
            due("10: none such", x.turn(wrong), NONE);
        }
    }

    private static void p11Later() {
        RotaMuseum x = Kit.museum(PAIR);
        int[] a = {0, 1, 1};
        int[] b = {0, 0, 2};
        int[] worth = {17, 7, 0};
        RotaMuseum y = Kit.museum(PAIR);
        for (int n = 0; n < 3; n++) {
            due("11: a behind " + n, x.later(n, 0), a[n]);
            due("11: b behind " + n, x.later(n, 1), b[n]);
            due("11: worth behind " + n, x.later(n, 10), worth[n]);
        }
        for (int n = 0; n <= 60; n++) {
            due("11: as nights go by", x.later(n, 0), y.thing(0, 2));
            due("11: as nights go by", x.later(n, 1), y.thing(1, 2));
            due("11: as nights go by", x.later(n, 10), y.has(6));
            y.nights(1);
        }
        due("11: nothing goes by", x.has(3), 0);
        due("11: n 61", x.later(61, 0), NONE);
        due("11: thing 2", x.later(1, 2), NONE);
        due("11: others", x.later(1, 9), NONE);
        due("11: others", x.later(1, 11), NONE);
        for (int wrong : WRONG) {
            due("11: n", x.later(wrong, 0), NONE);
            due("11: what", x.later(0, wrong), NONE);
        }
        Kit.feed(x, Kit.image(9990, 0, 0, 0, 0));
        x.on();
        due("11: to 9999", x.later(9, 10) != NONE, true);
        due("11: beyond 9999", x.later(10, 10), NONE);
    }

    private static void p12Idle() {
        due("12: no town", new RotaMuseum().idle(), 1);
        due("12: no rota", Kit.museum("museum 5 keeps 1;thing a worth 1 hangs 0;gang g at 7;").idle(), 1);
        RotaMuseum x = Kit.museum("museum 5 keeps 9;thing a worth 1 hangs 0;thing b worth 1 hangs 0;gang g at 7;rota g;");
        due("12: two things", x.idle(), 3);
        RotaMuseum y = Kit.museum("museum 5 keeps 1;thing a worth 1 hangs 0;gang g at 7;rota g;");
        due("12: never", y.idle(), NONE);
        RotaMuseum z = Kit.museum("museum 5 keeps 1;thing a worth 1 hangs 0;gang g at 7;rota g;draws 59-night;");
        due("12: the 60th", z.idle(), 60);
        z = Kit.museum("museum 5 keeps 1;thing a worth 1 hangs 0;gang g at 7;rota g;draws 60-night;");
        due("12: the 61st", z.idle(), NONE);
        z = Kit.museum("museum 5 keeps 1;thing a worth 0 hangs 0;gang g at 7;rota g;");
        due("12: not above 0", z.idle(), 1);
        Kit.feed(z, Kit.image(9999, 0, 0));
        z.on();
        due("12: no night ahead", z.idle(), NONE);
        due("12: but now", z.later(0, 0), 0);
    }

    private static void p13Best() {
        RotaMuseum x = Kit.museum("museum 5 keeps 30;thing a worth 1 hangs 0;thing b worth 1 hangs 0;gang g at 1;gang h at 2;rota g h;"
            + "wants g a 10;wants g b 9;wants h b 5;wants h a 1;");
        due("13: 1 night", x.best(1, 0), 0);
        due("13: worth", x.best(1, 1), 10);
        due("13: 2 nights", x.best(2, 0), 0);
        due("13: 3 nights: h leaves a, now as later", x.best(3, 0), NONE);
        due("13: 3 nights", x.best(3, 1), 10);
        RotaMuseum y = Kit.museum("museum 5 keeps 30;thing a worth 1 hangs 0;thing b worth 1 hangs 0;thing c worth 1 hangs 0;gang g at 1;"
            + "gang h at 2;rota g h;wants g a 10;wants g b 9;wants h b 5;wants h c 4;");
        due("13: b first, h takes c, a is left", y.best(3, 0), 1);
        due("13: worth together", y.best(3, 1), 19);
        due("13: by 2 nights a", y.best(2, 0), 0);
        // of like ones none first, then the first thing
        RotaMuseum z = Kit.museum("museum 5 keeps 30;thing a worth 1 hangs 0;thing b worth 1 hangs 0;gang g at 1;rota g;");
        due("13: none first", z.best(4, 0), NONE);
        due("13: worth 0", z.best(4, 1), 0);
        z = Kit.museum("museum 5 keeps 30;thing a worth 1 hangs 0;thing b worth 1 hangs 0;gang g at 1;rota g;wants g a 3;wants g b 3;draws 0;");
        due("13: the first thing, draws or not", z.best(1, 0), 0);
        due("13: later is as good", z.best(4, 0), NONE);
        due("13: both", z.best(4, 1), 6);
        due("13: n 0", z.best(0, 0), NONE);
        due("13: n 5", z.best(5, 1), NONE);
        due("13: others", z.best(1, 2), NONE);
        for (int wrong : WRONG) {
            due("13: n", z.best(wrong, 1), NONE);
            due("13: what", z.best(1, wrong), NONE);
        }
        due("13: without a turn", Kit.museum("museum 5 keeps 3;thing a worth 1 hangs 0;gang g at 1;").best(1, 1), NONE);
        z.steal(0);
        due("13: a new scene", z.best(1, 0), 1);
        z.undo();
        due("13: undone", z.best(1, 0), 0);
    }

    private static void p14Rota() {
        RotaMuseum x = Kit.museum("museum 5 keeps 9;thing a worth 50 hangs 0;thing b worth 7 hangs 0;gang g at 1;gang h at 2;gang i at 3;"
            + "wants h b 90;wants i b 90;");
        // No rota is needed. h takes b, the other two leave a for as long as they can.
        due("14: 1 night", x.rota(1, NONE), 50);
        due("14: first", x.rota(1, 0), 1);
        due("14: then the first ones", x.rota(1, 1), 0);
        due("14: then the first ones", x.rota(1, 2), 2);
        due("14: 2 nights", x.rota(2, NONE), 50);
        due("14: none such", x.rota(1, 3), NONE);
        due("14: n 0", x.rota(0, 0), NONE);
        due("14: n 61", x.rota(61, 0), NONE);
        due("14: n 60", x.rota(60, 0) >= 0, true);
        for (int wrong : WRONG) {
            due("14: n", x.rota(wrong, NONE), NONE);
            if (wrong != NONE) {
                due("14: k", x.rota(1, wrong), NONE);
            }
        }
        due("14: no gangs", Kit.museum("museum 5 keeps 9;thing a worth 5 hangs 0;").rota(1, NONE), NONE);
        // The night tells whose turn it is: on night 1 the second one begins.
        x.nights(1);
        due("14: night 1", x.rota(1, NONE), 50);
        due("14: night 1", x.rota(1, 0), 0);
        due("14: night 1", x.rota(1, 1), 1);
        due("14: night 1", x.rota(1, 2), 2);
        Kit.feed(x, Kit.image(9998, 0, 0, 0, 0));
        x.on();
        due("14: to 9999", x.rota(1, NONE), 50);
        due("14: beyond 9999", x.rota(2, NONE), NONE);
    }

    private static void p15Sees() {
        RotaMuseum x = Kit.museum(PAIR);
        due("15: now", x.sees(0), 0);
        x.nights(1);
        due("15: a comes back behind 2", x.sees(0), 2);
        due("15: none such", x.sees(2), NONE);
        for (int wrong : WRONG) {
            due("15: none such", x.sees(wrong), NONE);
        }
        x.steal(0);
        due("15: never", x.sees(0), NONE);
        RotaMuseum y = Kit.museum("museum 5 keeps 30;thing a worth 1 hangs 0;gang g at 1;visitor v sees a;");
        Kit.feed(y, Kit.image(9990, 1, 22));
        y.on();
        due("15: on the 9th, which is 9999", y.sees(0), 9);
        Kit.feed(y, Kit.image(9991, 1, 22));
        y.on();
        due("15: beyond 9999", y.sees(0), NONE);
    }

    private static void p16Way() {
        String town = "museum 50 keeps 9;thing a worth 1 hangs 0;thing b worth 1 hangs 0;thing c worth 1 hangs 0;gang g at 40;gang h at 75;"
            + "gang i at 20;visitor v sees a b c;visitor w sees b;";
        RotaMuseum x = Kit.museum(town);
        due("16: all hang", x.way(0), 0);
        Kit.feed(x, Kit.image(0, 1, 1, 2, 1, 3, 1));
        x.on();
        due("16: the nearer end first", x.way(0), 25 + 55);
        due("16: one house", x.way(1), 25);
        Kit.feed(x, Kit.image(0, 1, 1, 255, 1, 3, 1));
        x.on();
        due("16: one side", x.way(0), 30);
        due("16: stolen", x.way(1), 0);
        due("16: none such", x.way(2), NONE);
        for (int wrong : WRONG) {
            due("16: none such", x.way(wrong), NONE);
        }
    }

    private static void p17Waits() {
        RotaMuseum x = Kit.museum("museum 50 keeps 9;thing a worth 1 hangs 0;thing b worth 1 hangs 0;thing c worth 1 hangs 0;"
            + "thing d worth 1 hangs 0;gang g at 1;gang h at 2;gang i at 3;gang j at 4;wants g b 5;wants g c 5;wants h a 1;wants i a 2;"
            + "wants i c 90;wants g d 99;");
        due("17: all hang", x.waits(0, 0), NONE);
        due("17: all hang", x.waits(0, 1), NONE);
        due("17: all hang", x.waits(0, 2), 0);
        Kit.feed(x, Kit.image(0, 1, 1, 2, 1, 3, 1, 0, 1));
        x.on();
        due("17: g for h", x.waits(0, 0), 1);
        due("17: the first of like ones", x.waits(0, 1), 1);
        due("17: ring of g and h", x.waits(0, 2), 2);
        due("17: h for g", x.waits(1, 0), 0);
        due("17: ring", x.waits(1, 2), 2);
        due("17: i wants its own c most, but waits for a", x.waits(2, 1), 0);
        due("17: i is in no ring", x.waits(2, 2), 0);
        due("17: j wants nothing", x.waits(3, 0), NONE);
        due("17: j wants nothing", x.waits(3, 2), 0);
        x.steal(1);
        due("17: g for i, as b is stolen", x.waits(0, 0), 2);
        due("17: ring of g and i", x.waits(0, 2), 2);
        due("17: h is in no ring", x.waits(1, 2), 0);
        due("17: others", x.waits(0, 3), NONE);
        due("17: none such", x.waits(4, 0), NONE);
        for (int wrong : WRONG) {
            due("17: gang", x.waits(wrong, 0), NONE);
            due("17: what", x.waits(0, wrong), NONE);
        }
    }

    private static int lookedAt(RotaMuseum x, int... rows) {
        Kit.feed(x, rows);
        return x.looked();
    }

    private static void p18Looked() {
        RotaMuseum x = Kit.museum("museum 5 keeps 3;thing a worth 1 hangs 0;thing b worth 1 hangs 9;gang g at 1;rota g;may worth=1 and hangs=0;");
        due("18: a hangs now alone", lookedAt(x, 0, 1), 1);
        due("18: a is gone", lookedAt(x, 0, 0), 60);
        due("18: b always hangs", lookedAt(x, 1, 1), 61);
        due("18: both", lookedAt(x, 1, 1, 0, 1), 1);
        due("18: so and not so", lookedAt(x, 0, 1, 0, 0), 0);
        int[] sixteen = new int[32];
        due("18: 16 rows", lookedAt(x, sixteen), 60);
        due("18: 17 rows", lookedAt(x, new int[34]), NONE);
        due("18: no row", lookedAt(x), NONE);
        due("18: half a row", lookedAt(x, 0, 1, 0), NONE);
        due("18: no such thing", lookedAt(x, 2, 1), NONE);
        due("18: 2", lookedAt(x, 0, 2), NONE);
        due("18: 255", lookedAt(x, 0, 255), NONE);
        due("18: wrong in the last row", lookedAt(x, 0, 1, 255, 1), NONE);
        due("18: refused", x.status(5), 7);
        due("18: the tape goes", x.feed(0, 0, 0, 0, 0), 20);
        x.end(0);
        Kit.feed(x, Kit.image(9950, 0, 0, 0, 0));
        x.on();
        due("18: not beyond 9999", lookedAt(x, 1, 1), 50);
        due("18: the last one", x.when(49), 49);
    }

    private static void p19When() {
        RotaMuseum x = Kit.museum(PAIR);
        due("19: ahead of any", x.when(0), NONE);
        int count = lookedAt(x, 0, 0);
        due("19: first", x.when(0), 1);
        due("19: second", x.when(1), 2);
        due("19: last", x.when(count - 1) > 50, true);
        due("19: none such", x.when(count), NONE);
        lookedAt(x, 9, 9);
        due("19: a refused one does not count", x.when(0), 1);
        x.nights(3);
        due("19: as it was told then", x.when(0), 1);
        lookedAt(x, 0, 1, 0, 0);
        due("19: the latest told none", x.when(0), NONE);
        for (int wrong : WRONG) {
            due("19: none such", x.when(wrong), NONE);
        }
    }

    private static int toldBy(RotaMuseum x, int... rows) {
        Kit.feed(x, rows);
        return x.lies();
    }

    private static void p20Lies() {
        RotaMuseum x = Kit.museum(PAIR);
        x.nights(1);
        due("20: so", toldBy(x, 0, 0, 1), 0);
        due("20: not so", toldBy(x, 0, 0, 0), 1);
        due("20: one twice", toldBy(x, 0, 0, 0, 0, 1, 1), 1);
        due("20: one row of it", toldBy(x, 0, 0, 1, 0, 1, 1), 1);
        due("20: two", toldBy(x, 0, 0, 0, 1, 0, 1), 2);
        due("20: h has not", toldBy(x, 1, 0, 0, 1, 1, 0), 0);
        x.steal(0);
        due("20: stolen", toldBy(x, 0, 0, 1, 1, 0, 0), 1);
        due("20: 16 rows", toldBy(x, new int[48]), 0);
        due("20: 17 rows", toldBy(x, new int[51]), NONE);
        due("20: no row", toldBy(x), NONE);
        due("20: half a row", toldBy(x, 0, 0), NONE);
        due("20: no such gang", toldBy(x, 2, 0, 0), NONE);
        due("20: no such thing", toldBy(x, 0, 2, 0), NONE);
        due("20: 2", toldBy(x, 0, 0, 2), NONE);
        due("20: refused", x.status(5), 6);
        due("20: the tape goes", x.feed(0, 0, 0, 0, 0), 20);
    }

    private static void p21Nights() {
        RotaMuseum x = Kit.museum(PAIR);
        due("21: n 0", x.nights(0), NONE);
        due("21: n 101", x.nights(101), NONE);
        due("21: n -1", x.nights(-1), NONE);
        due("21: n max", x.nights(Integer.MAX_VALUE), NONE);
        due("21: refused", x.status(2), 4);
        due("21: no act", x.has(9), 0);
        due("21: taken", x.nights(2), 2);
        due("21: one act", x.has(9), 1);
        due("21: a 100", x.nights(100) > 0, true);
        due("21: no draws", x.has(10), 1);
        Kit.feed(x, Kit.image(9900, 0, 0, 0, 0));
        x.on();
        due("21: beyond 9999", x.nights(100), NONE);
        due("21: to 9999", x.nights(99) > 0, true);
        due("21: night", x.has(3), 9999);
        due("21: no more", x.nights(1), NONE);
        due("21: nor by the seed", x.chance(1), NONE);
        due("21: refused", x.status(2), 7);
        // A formula: a thing brought back hangs for 0 nights and can be taken at once, if it must not hang.
        RotaMuseum y = Kit.museum("museum 5 keeps 1;thing a worth 1 hangs 0;gang g at 1;gang h at 1;rota g h;");
        due("21: each night", y.nights(10), 10);
        due("21: by turns", y.thing(0, 2), 2);
    }

    private static void formulas() {
        String[][] told = {{"7/2", "3"}, {"(0-7)/2", "0-4"}, {"7/(0-2)", "0-4"}, {"(0-7)/(0-2)", "3"}, {"7%2", "1"}, {"(0-7)%2", "1"},
            {"7%(0-2)", "0-1"}, {"(0-7)%(0-2)", "0-1"}, {"5/0", "0"}, {"5%0", "0"}, {"10-3-2", "5"}, {"2+3*4", "14"}, {"100/5/2", "10"},
            {"100%7*3", "6"}, {"9999*9999", "1000*1000"}, {"9999*9999-1", "999*1000+999"}, {"(0-9999)*9999", "0-1000*1000"},
            {"1000*1000+1", "1000*1000"}, {"0-1000*1000-5+1", "1-1000*1000"}, {"min(3,4)", "3"}, {"max(3,4)", "4"}, {"min(0-3,4)", "0-3"},
            {"if(1<2,5,6)", "5"}, {"if(2<1,5,6)", "6"}, {"if(not 1=1 or all and 2>1,5,6)", "5"}, {"if(all or all and not all,5,6)", "5"},
            {"if([all or all] and not all,5,6)", "6"}, {"if(not not 1=1,5,6)", "5"}, {"if(not 1=1 and 2=1,5,6)", "6"},
            {"if(not [1=1 and 2=1],5,6)", "5"}, {"worth", "17"}, {"wants", "23"}, {"hung", "4"}, {"hangs", "3"}, {"night", "1"}, {"has", "1"},
            {"gone", "2"}, {"0017", "17"}};
        for (String[] row : told) {
            RotaMuseum x = Kit.museum("museum 5 keeps 30;thing a worth 17 hangs 3;thing b worth 1 hangs 30;thing c worth 1 hangs 30;gang g at 1;"
                + "wants g a 23;rota g;may " + row[0] + "=" + row[1] + ";");
            Kit.feed(x, Kit.image(1, 0, 4, 1, 1, 255, 7));
            x.on();
            due("formula " + row[0] + " is " + row[1], x.gang(0, 2), 1);
        }
        // As deep as it goes, with as much waiting as can be.
        String deep = "1";
        for (int i = 0; i < 7; i++) {
            deep = "if(2=1 or 1=1 and 1<1+1*" + deep + ",1+1*1,0)";
        }
        RotaMuseum d = Kit.museum("museum 5 keeps 30;thing a worth 1 hangs 0;gang g at 1;may 2=1 or 1=1 and 3=1+1*" + deep + ";");
        due("formula as deep as it goes", d.gang(0, 2), 1);
        // Taken is what draws most, of like ones the first, and above 0.
        RotaMuseum x = Kit.museum("museum 5 keeps 30;thing a worth 1 hangs 0;thing b worth 3 hangs 0;thing c worth 3 hangs 0;gang g at 1;rota g;draws worth-1;");
        due("draws", x.nights(5), 2);
        due("draws b first", x.kept(0, 2), 1);
        due("draws c then", x.kept(1, 2), 2);
        due("draws never a", x.thing(0, 2), 0);
        RotaMuseum y = Kit.museum("museum 5 keeps 30;thing a worth 5 hangs 0;thing b worth 3 hangs 0;gang g at 1;rota g;wants g b 3;");
        y.nights(1);
        due("worth and wants together", y.kept(0, 2), 1);
    }

    private static void p22Chance() {
        RotaMuseum x = Kit.museum(PAIR + "quarrel 40;");
        RotaMuseum y = Kit.museum(PAIR + "quarrel 40;");
        long seed = 12345;
        x.seed(12345);
        y.seed(12345);
        int quarrels = 0;
        for (int i = 0; i < 100; i++) {
            seed = (1103515245L * seed + 12345) % (1L << 31);
            int q = seed / 64 % 100 < 40 ? 1 : 0;
            quarrels += q;
            due("22: one night", y.chance(1), q);
            due("22: seed", y.has(10), seed);
        }
        due("22: a 100", x.chance(100), quarrels);
        due("22: one act", x.has(9), 1);
        due("22: seed", x.has(10), seed);
        due("22: kept is what was taken", x.has(8), y.has(8));
        RotaMuseum none = Kit.museum(PAIR + "quarrel 0;");
        due("22: quarrel 0", none.chance(100), 0);
        due("22: draws all the same", none.has(10) != 1, true);
        RotaMuseum all = Kit.museum(PAIR + "quarrel 100;");
        due("22: quarrel 100", all.chance(100), 100);
        due("22: nothing is taken", all.has(8), 0);
        RotaMuseum nobody = Kit.museum("museum 1 keeps 1;gang g at 1;quarrel 100;");
        due("22: nobody's turn", nobody.chance(100), 0);
        due("22: no draw", nobody.has(10), 1);
        due("22: n 0", x.chance(0), NONE);
        due("22: n 101", x.chance(101), NONE);
        due("22: n min", x.chance(Integer.MIN_VALUE), NONE);
        due("22: refused", x.status(2), 3);
        due("22: no draw when refused", x.has(10), seed);
    }

    private static void p23Steal() {
        RotaMuseum x = Kit.museum(PAIR);
        due("23: from the museum", x.steal(1), true);
        due("23: where", x.thing(1, 2), 255);
        due("23: again", x.steal(1), false);
        x.nights(1);
        due("23: from a gang", x.steal(0), true);
        due("23: where", x.thing(0, 2), 255);
        due("23: stolen", x.has(7), 2);
        x.nights(40);
        due("23: for good", x.has(7), 2);
        due("23: none such", x.steal(2), false);
        for (int wrong : WRONG) {
            due("23: none such", x.steal(wrong), false);
        }
        due("23: refused", x.status(3), 2 + WRONG.length);
        due("23: acts", x.has(9), 4);
    }

    private static void p24Back() {
        RotaMuseum x = Kit.museum(PAIR);
        due("24: it hangs", x.back(0), false);
        x.nights(1);
        due("24: from a gang", x.back(0), true);
        due("24: where", x.thing(0, 2), 0);
        due("24: for 0 nights", x.thing(0, 3), 0);
        x.steal(1);
        x.nights(1);
        due("24: from whoever", x.back(1), true);
        due("24: where", x.thing(1, 2), 0);
        due("24: for 0 nights", x.thing(1, 3), 0);
        due("24: none such", x.back(2), false);
        for (int wrong : WRONG) {
            due("24: none such", x.back(wrong), false);
        }
        due("24: refused", x.status(3), 2 + WRONG.length);
    }

    private static void p25Swap() {
        RotaMuseum x = Kit.museum(PAIR + "thing c worth 1 hangs 0;thing d worth 1 hangs 0;");
        Kit.feed(x, Kit.image(4, 1, 1, 2, 2, 0, 3, 1, 1));
        x.on();
        due("25: one gang has both", x.swap(0, 3), false);
        due("25: one hangs", x.swap(0, 2), false);
        due("25: one hangs", x.swap(2, 1), false);
        due("25: itself", x.swap(0, 0), false);
        due("25: none such", x.swap(0, 4), false);
        due("25: none such", x.swap(4, 0), false);
        for (int wrong : WRONG) {
            due("25: none such", x.swap(wrong, 0), false);
            due("25: none such", x.swap(0, wrong), false);
        }
        due("25: refused", x.status(3), 6 + 2 * WRONG.length);
        due("25: swap", x.swap(0, 1), true);
        due("25: where", x.thing(0, 2), 2);
        due("25: where", x.thing(1, 2), 1);
        due("25: nights", x.thing(0, 3), 0);
        due("25: nights", x.thing(1, 3), 0);
        x.steal(0);
        due("25: stolen", x.swap(0, 1), false);
        due("25: acts", x.has(9), 2);
    }

    private static void p26Undo() {
        RotaMuseum x = Kit.museum("museum 5 keeps 1;thing a worth 1 hangs 0;gang g at 1;gang h at 1;rota g h;quarrel 30;");
        due("26: none", x.undo(), false);
        due("26: refused", x.status(4), 1);
        x.nights(60);
        due("26: told", x.has(8), 60);
        for (int i = 0; i < 20; i++) {
            due("26: taken", x.nights(100), 100);
        }
        due("26: 20 acts", x.has(9), 20);
        due("26: oldest told", x.kept(0, 0), 2000);
        int seed = x.has(10);
        for (int i = 19; i >= 0; i--) {
            due("26: undo", x.undo(), true);
            due("26: night", x.has(3), 60 + 100 * i);
            due("26: acts", x.has(9), i);
            due("26: oldest told", x.kept(0, 0), 100 * i);
            due("26: newest told", x.kept(59, 0), 59 + 100 * i);
            due("26: whose", x.kept(59, 1), 1);
        }
        due("26: the 21st", x.undo(), false);
        due("26: refused", x.status(4), 2);
        due("26: seed", x.has(10), seed);
        x.chance(10);
        seed = x.has(10);
        x.undo();
        due("26: the seed stays", x.has(10), seed);
        x.steal(0);
        x.undo();
        due("26: hangs or had as it was", x.thing(0, 2), 2);
        due("26: for as long", x.thing(0, 3), 1);
        // Told are fewer than 60 again, if they were.
        RotaMuseum y = Kit.museum(PAIR);
        y.nights(2);
        y.nights(100);
        y.undo();
        due("26: told", y.has(8), 2);
        y.undo();
        due("26: told", y.has(8), 0);
        due("26: night", y.has(3), 0);
    }

    private static void p27Seed() {
        RotaMuseum x = new RotaMuseum();
        due("27: 0", x.seed(0), true);
        due("27: has", x.has(10), 0);
        due("27: max", x.seed(Integer.MAX_VALUE), true);
        due("27: has", x.has(10), Integer.MAX_VALUE);
        due("27: -1", x.seed(-1), false);
        due("27: min", x.seed(Integer.MIN_VALUE), false);
        due("27: has", x.has(10), Integer.MAX_VALUE);
        due("27: refused", x.status(5), 2);
        due("27: no act", x.has(9), 0);
    }

    private static void p28Kept() {
        RotaMuseum x = Kit.museum("museum 5 keeps 1;thing a worth 1 hangs 0;thing b worth 1 hangs 1;gang g at 1;gang h at 1;rota g h h;may hangs=0 or has=0;");
        due("28: none", x.kept(0, 0), NONE);
        x.nights(3);
        for (int k = 0; k < 3; k++) {
            due("28: night", x.kept(k, 0), k);
            due("28: gang", x.kept(k, 1), k == 0 ? 0 : 1);
        }
        due("28: none such", x.kept(3, 0), NONE);
        due("28: others", x.kept(0, 3), NONE);
        for (int wrong : WRONG) {
            due("28: k", x.kept(wrong, 0), NONE);
            due("28: what", x.kept(0, wrong), NONE);
        }
        x.nights(97);
        due("28: 60 told", x.has(8), 60);
        due("28: the oldest of these", x.kept(0, 0), 40);
        due("28: the newest", x.kept(59, 0), 99);
        due("28: not the 61st", x.kept(60, 0), NONE);
    }

    private static void p29Image() {
        RotaMuseum x = Kit.museum(PAIR);
        Kit.feed(x, Kit.image(0x1234, 2, 0x0155, 255, 999));
        due("29: on", x.on(), true);
        due("29: image", x.image(), 9);
        int[] want = Kit.image(0x1234, 2, 0x0155, 255, 999);
        for (int k = 0; k < want.length; k++) {
            due("29: byte " + k, x.octet(k), want[k]);
        }
        due("29: no tape", x.end(1), false);
    }

    private static void p30Octet() {
        RotaMuseum x = Kit.museum(PAIR);
        due("30: ahead of any", x.octet(0), NONE);
        x.image();
        x.nights(1);
        due("30: of the latest image", x.octet(1), 0);
        x.image();
        due("30: of the latest image", x.octet(1), 1);
        due("30: last", x.octet(8) >= 0, true);
        due("30: none such", x.octet(9), NONE);
        for (int wrong : WRONG) {
            due("30: none such", x.octet(wrong), NONE);
        }
        Kit.town(x, "museum 1 keeps 1;");
        due("30: still the latest", x.octet(1), 1);
    }

    private static boolean set(RotaMuseum x, int... bytes) {
        Kit.feed(x, bytes);
        return x.on();
    }

    private static void p31On() {
        RotaMuseum x = Kit.museum(PAIR);
        x.nights(5);
        due("31: on", set(x, Kit.image(9999, 2, 999, 255, 0)), true);
        due("31: night", x.has(3), 9999);
        due("31: where", x.thing(0, 2), 2);
        due("31: nights", x.thing(0, 3), 999);
        due("31: where", x.thing(1, 2), 255);
        due("31: nothing kept", x.has(8), 0);
        due("31: no act", x.has(9), 0);
        due("31: undo", x.undo(), false);
        due("31: the tape goes", x.feed(0, 0, 0, 0, 0), 20);
        x.end(0);
        due("31: night 10000", set(x, Kit.image(10000, 2, 1, 0, 0)), false);
        due("31: nights 1000", set(x, Kit.image(1, 2, 1000, 0, 0)), false);
        due("31: gang 3", set(x, Kit.image(1, 3, 1, 0, 0)), false);
        due("31: 254", set(x, Kit.image(1, 0, 1, 254, 0)), false);
        due("31: one thing", set(x, Kit.image(1, 0, 1)), false);
        due("31: three things", set(x, Kit.image(1, 0, 1, 0, 1, 0, 1)), false);
        due("31: empty", set(x), false);
        int[] wrong = Kit.image(1, 0, 1, 0, 1);
        wrong[8] ^= 1;
        due("31: the last byte", set(x, wrong), false);
        wrong = Kit.image(1, 0, 1, 0, 1);
        wrong[8] += wrong[8] < 5 ? 251 : -wrong[8] - 1;
        due("31: the last byte is below 251", set(x, wrong), false);
        due("31: refused", x.status(5), 9);
        due("31: all stays", x.has(3), 9999);
        due("31: all stays", x.thing(0, 3), 999);
        due("31: the tape goes", x.feed(0, 0, 0, 0, 0), 20);
    }

    private static void p32Status() {
        RotaMuseum x = Kit.museum(PAIR);
        x.end(-1);
        x.town();
        x.town();
        for (int i = 0; i < 3; i++) {
            x.nights(0);
        }
        for (int i = 0; i < 4; i++) {
            x.steal(9);
        }
        for (int i = 0; i < 5; i++) {
            x.undo();
        }
        for (int i = 0; i < 6; i++) {
            x.seed(-1);
        }
        for (int what = 0; what <= 5; what++) {
            due("32: status", x.status(what), what + 1);
        }
        due("32: others", x.status(6), NONE);
        for (int wrong : WRONG) {
            due("32: others", x.status(wrong), NONE);
        }
    }

    public static void main(String[] args) {
        p01NewObject();
        p02Feed();
        p03End();
        p04Town();
        p05Fault();
        p06Has();
        p07Letter();
        p08Thing();
        p09Gang();
        p10Turn();
        p11Later();
        p12Idle();
        p13Best();
        p14Rota();
        p15Sees();
        p16Way();
        p17Waits();
        p18Looked();
        p19When();
        p20Lies();
        p21Nights();
        formulas();
        p22Chance();
        p23Steal();
        p24Back();
        p25Swap();
        p26Undo();
        p27Seed();
        p28Kept();
        p29Image();
        p30Octet();
        p31On();
        p32Status();
        Kit.finish("PromiseTest");
    }
}
