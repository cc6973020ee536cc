/** Terms III: what is asked of NIGHTS AHEAD, of VISITORS and GANGS, and images, at each limit, one below it and one above it. */
public final class EdgeAheadTest {
    private static final int NONE = RotaMuseum.NONE;
    private static final int STOLEN = 255;
    private static final int[] NIGHTS = {0, 1, 9937, 9938, 9939, 9940, 9941, 9994, 9995, 9996, 9997, 9998, 9999};

    private static void due(String what, long got, long want) {
        Kit.due(what, got, want);
    }

    private static void due(String what, boolean got, boolean want) {
        Kit.due(what, got, want);
    }

    private static int most(int night) {
        return Math.min(60, 9999 - night);
    }

    // Brought back and taken again on each NIGHT but from the told one on: draws is above 0 ahead of it alone.
    private static RotaMuseum until(int from, int night, int where) {
        return Kit.museumOn("museum 5 keeps 1;thing t worth 7 hangs 0;thing u worth 0 hangs 30;gang g at 1;rota g;visitor v sees t;draws if(hangs=0,"
            + number(from) + "-night,0);", night, where, 1, 0, 30);
    }

    private static String number(int n) {
        return n <= 9999 ? "" + n : "9999+" + (n - 9999);
    }

    // AHEAD are NIGHTS as they come from now on without DRAWS (60 at most, not beyond NIGHT 9999).

    private static void sixtyNightsLater() {
        for (int night : NIGHTS) {
            RotaMuseum x = until(0, night, 0);
            due("0 of " + night, x.later(0, 10), 7);
            for (int n : new int[] {most(night) - 1, most(night)}) {
                due(n + " of " + night, x.later(n, 10), n < 0 ? NONE : 7);
                due(n + " of " + night, x.later(n, 0), n < 0 ? NONE : 0);
            }
            for (int n : new int[] {most(night) + 1, 61, 62, 100}) {
                due(n + " of " + night, x.later(n, 10), NONE);
                due(n + " of " + night, x.later(n, 0), NONE);
            }
            due("no night went by", x.has(3), night);
        }
    }

    private static void withoutDraws() {
        RotaMuseum x = Kit.museum("museum 5 keeps 1;thing t worth 7 hangs 0;gang g at 1;rota g;visitor v sees t;quarrel 100;");
        due("no quarrel ahead", x.later(1, 0), 1);
        due("idle", x.idle(), NONE);
        x.nights(1);
        due("sees", x.sees(0), NONE);
        due("rota", x.rota(60, NONE), 0);
        Kit.feed(x, 0, 1);
        due("looked", x.looked(), 0);
        due("the seed", x.has(10), 1);
    }

    // Told behind as many NIGHTS as go by: on the last one that there is, too.
    private static void laterIsWhatComes() {
        RotaMuseum x = until(60, 0, 0);
        due("behind 59", x.later(59, 0), 1);
        due("behind 60", x.later(60, 0), 1);
        x = until(59, 0, 0);
        due("behind 59", x.later(59, 0), 1);
        due("behind 60", x.later(60, 0), 0);
        x = until(9998, 9939, 0);
        due("behind 59, night 9998", x.later(59, 0), 1);
        due("behind 60, night 9999", x.later(60, 0), 0);
    }

    private static void idleNight() {
        for (int night : NIGHTS) {
            for (int k : new int[] {1, 2, 59, 60, 61}) {
                // The k-th NIGHT AHEAD is the first one with nothing to draw.
                RotaMuseum x = until(night + k - 1, night, 1);
                due("idle on the " + k + "th of " + night, x.idle(), k <= most(night) ? k : NONE);
            }
        }
    }

    // SEES: the first NIGHT AHEAD (1: behind the next one) behind which all a VISITOR wants to see hangs.
    private static void seesOnANight() {
        for (int night : NIGHTS) {
            due("now, on " + night, until(0, night, 0).sees(0), 0);
            for (int k : new int[] {1, 2, 59, 60, 61}) {
                RotaMuseum x = until(night + k - 1, night, 1);
                due("sees behind the " + k + "th of " + night, x.sees(0), k <= most(night) ? k : NONE);
            }
        }
    }

    private static void seesAllAtOnce() {
        String town = "museum 5 keeps 30;thing a worth 1 hangs 9;thing b worth 1 hangs 9;thing c worth 1 hangs 9;gang g at 1;visitor v sees a;visitor w sees a b;"
            + "visitor x sees a b c;";
        RotaMuseum x = Kit.museumOn(town, 0, 0, 0, 1, 29, 1, 0);
        due("all of one hang now", x.sees(0), 0);
        due("b comes back behind the second night", x.sees(1), 2);
        due("c behind the 31st", x.sees(2), 31);
        x = Kit.museumOn(town, 0, 0, 0, 1, 30, 1, 1);
        due("b behind the first night", x.sees(1), 1);
        due("c behind the 30th", x.sees(2), 30);
        x.steal(1);
        due("never", x.sees(1), NONE);
        due("never", x.sees(2), NONE);
        due("still now", x.sees(0), 0);
    }

    // BEST to take now: by n NIGHTS (1 to 4)

    private static void bestByOneToFour() {
        for (int night : NIGHTS) {
            RotaMuseum x = Kit.museumOn("museum 5 keeps 1;thing t worth 7 hangs 0;gang g at 1;rota g;wants g t 9;", night, 0, 0);
            for (int n = -1; n <= 6; n++) {
                boolean can = n >= 1 && n <= 4 && n <= most(night);
                due("best(" + n + ", 0) on " + night, x.best(n, 0), can ? 0 : NONE);
                due("best(" + n + ", 1) on " + night, x.best(n, 1), can ? 9 * n : NONE);
            }
        }
    }

    private static void bestOfLikeOnes() {
        String town = "museum 5 keeps 30;thing a worth 9 hangs 0;thing b worth 9 hangs 0;thing c worth 9 hangs 0;gang g at 1;gang h at 2;rota g h;";
        RotaMuseum x = Kit.museum(town);
        due("0, 0, 0: none", x.best(1, 0), NONE);
        due("worth 0", x.best(1, 1), 0);
        x = Kit.museum(town + "wants g c 1;");
        due("1 is more than none", x.best(1, 0), 2);
        x = Kit.museum(town + "wants g b 5;wants g c 5;wants g a 4;");
        due("the first of like ones", x.best(1, 0), 1);
        x = Kit.museum(town + "wants g b 5;wants g c 6;wants g a 4;");
        due("the last by one", x.best(1, 0), 2);
        // The other one takes b in between, if it wants it at all.
        x = Kit.museum(town + "wants g b 5;");
        due("later is as good: none", x.best(3, 0), NONE);
        due("worth", x.best(3, 1), 5);
        x = Kit.museum(town + "wants g b 5;wants h b 1;");
        due("else h has it", x.best(3, 0), 1);
        due("worth", x.best(3, 1), 5);
        x = Kit.museum(town + "wants g b 5;wants h a 1;wants h b 1;");
        due("h takes the first of like ones, a", x.best(3, 0), NONE);
        x = Kit.museum(town + "wants g a 5;wants g b 5;wants h a 1;wants h b 1;");
        due("both are had but one", x.best(3, 1), 5);
        due("then none, as h leaves one", x.best(3, 0), NONE);
    }

    // What each GANG takes is counted for that GANG alone.
    private static void bestOfEachGang() {
        String town = "museum 5 keeps 30;thing a worth 9 hangs 0;thing b worth 9 hangs 0;thing c worth 9 hangs 0;gang f at 1;gang g at 1;gang h at 2;"
            + "wants f a 50;wants f b 40;wants g a 7;wants g c 5;wants h b 3;wants h c 2;";
        // If g takes a, f takes b and h takes c: nothing is left; if it takes c or none, f takes a and h takes b: 5 alone.
        RotaMuseum x = Kit.museum(town + "rota g f h g;");
        for (int n = 1; n <= 4; n++) {
            due("g by " + n, x.best(n, 1), 7);
            due("g now by " + n, x.best(n, 0), 0);
        }
        x = Kit.museum(town + "rota h g g f;");
        due("h takes b, g takes a and c", x.best(3, 0), 1);
        due("worth b alone", x.best(3, 1), 3);
        x = Kit.museum(town + "rota h f h;");
        due("f takes a in between, b and c are had", x.best(3, 1), 5);
        due("either first: the first thing", x.best(3, 0), 1);
        x = Kit.museum(town + "rota h h h;");
        due("h alone", x.best(2, 1), 5);
        due("either first: the first thing", x.best(2, 0), 1);
        due("one night may go by", x.best(3, 0), NONE);
        x = Kit.museum(town + "rota g g;");
        due("g by 2", x.best(2, 1), 12);
        due("the first thing", x.best(2, 0), 0);
    }

    // Asked by fewer NIGHTS behind more, and on another scene, the answer is of what was asked.
    private static void askedAgain() {
        for (String rota : new String[] {"rota f;", "rota g;"}) {
            RotaMuseum x = Kit.museum("museum 5 keeps 1;thing t worth 7 hangs 0;gang f at 1;gang g at 1;wants f t 9;wants g t 9;" + rota);
            for (int n : new int[] {4, 3, 2, 1, 4, 1, 3, 1}) {
                due("best by " + n, x.best(n, 1), 9 * n);
                due("best by " + n, x.best(n, 0), 0);
            }
        }
        RotaMuseum y = eachItsOwn(0, 60, 50, 40, 30, 20, 10);
        due("rota by 6", y.rota(6, NONE), 700);
        due("rota by 1", y.rota(1, NONE), 200);
        due("its second turn", y.rota(1, 1), 0);
        due("rota by 6", y.rota(6, 5), 0);
        for (int t = 0; t < 6; t++) {
            y.steal(t);
        }
        due("nothing hangs", y.rota(6, NONE), 0);
        for (int k = 0; k < 6; k++) {
            due("the first order", y.rota(6, k), k);
        }
    }

    // Each ACT, undo(), on() and town() makes another scene.
    private static void askedBehindEachChange() {
        String town = "museum 5 keeps 9;thing a worth 7 hangs 0;thing b worth 3 hangs 0;gang g at 1;gang h at 1;rota g;wants g a 9;wants g b 4;";
        RotaMuseum x = Kit.museum(town);
        asked("at first", x, 9, 3);
        x.nights(1);
        asked("g has a", x, 4, 0);
        x.undo();
        asked("undone", x, 9, 3);
        x.chance(1);
        asked("g has a", x, 4, 0);
        x.back(0);
        asked("back", x, 9, 3);
        x.steal(0);
        asked("stolen", x, 4, 0);
        Kit.put(x, 0, 1, 9, 2, 0);
        asked("a is brought back", x, 9, 0);
        x.swap(0, 1);
        asked("swapped", x, 0, 0);
        Kit.town(x, town + "wants g a 8;");
        asked("another town", x, 8, 3);
        Kit.town(x, town.replace("worth 3", "worth 2"));
        asked("another town", x, 9, 2);
        Kit.town(x, town.replace("rota g;", ""));
        due("no turn", x.best(1, 1), NONE);
        due("rota", x.rota(1, NONE), 3);
        Kit.town(x, "museum 5 keeps 9;");
        due("no gang", x.rota(1, NONE), NONE);
    }

    private static void asked(String what, RotaMuseum x, int best, int rota) {
        due(what + ", best", x.best(1, 1), best);
        due(what + ", rota", x.rota(1, NONE), rota);
    }

    // A NIGHT of BEST begins with what is brought back, too.
    private static void bestBehindWhatIsBroughtBack() {
        String town = "museum 5 keeps 3;thing t worth 7 hangs 0;gang g at 1;gang h at 1;rota g;wants g t 9;";
        // Had for 0 nights it comes on the 4th NIGHT; for 3 at once, and, if it is taken then, on the 4th once more.
        int[][] worth = {{0, 0, 0, 9}, {0, 0, 9, 9}, {0, 9, 9, 9}, {9, 9, 9, 18}};
        for (int had = 0; had <= 3; had++) {
            RotaMuseum x = Kit.museumOn(town, 0, 2, had);
            for (int n = 1; n <= 4; n++) {
                due("had for " + had + ", worth by " + n, x.best(n, 1), worth[had][n - 1]);
                boolean now = had == 3 && (n == 1 || n == 4);
                due("had for " + had + ", now by " + n, x.best(n, 0), now ? 0 : NONE);
            }
        }
    }

    private static void bestIsWhatMayBeTaken() {
        String town = "museum 5 keeps 30;thing a worth 9 hangs 2;thing b worth 9 hangs 0;gang g at 1;rota g;wants g a 9;wants g b 1;";
        RotaMuseum x = Kit.museumOn(town, 0, 0, 1, 0, 0);
        due("a has not hung long enough", x.best(1, 0), 1);
        due("worth of b", x.best(1, 1), 1);
        due("but then it has", x.best(2, 1), 10);
        x = Kit.museumOn(town, 0, 0, 2, 0, 0);
        due("a has", x.best(1, 0), 0);
        x = Kit.museumOn(town + "may has=0;", 0, 0, 2, 0, 0);
        due("one alone", x.best(4, 1), 9);
        x = Kit.museumOn(town + "draws 0;", 0, 0, 2, 0, 0);
        due("whatever draws", x.best(1, 1), 9);
        x.steal(0);
        due("not what is stolen", x.best(4, 1), 1);
    }

    private static void bestWithoutATurn() {
        due("no rota", Kit.museum("museum 5 keeps 1;thing t worth 7 hangs 0;gang g at 1;wants g t 9;").best(1, 1), NONE);
        due("no town", new RotaMuseum().best(1, 1), NONE);
        due("nothing to take", Kit.museum("museum 5 keeps 1;gang g at 1;rota g;").best(1, 0), NONE);
        due("worth 0", Kit.museum("museum 5 keeps 1;gang g at 1;rota g;").best(1, 1), 0);
    }

    // As many as there can be: eight THINGS, four NIGHTS.
    private static void bestOfEight() {
        StringBuilder s = new StringBuilder("museum 5 keeps 30;");
        for (int i = 0; i < 8; i++) {
            s.append("thing t").append((char) ('a' + i)).append(" worth 1 hangs 0;");
        }
        s.append("gang g at 1;rota g;");
        for (int i = 0; i < 8; i++) {
            s.append("wants g t").append((char) ('a' + i)).append(' ').append(i == 7 ? 99 : 90 + i).append(';');
        }
        RotaMuseum x = Kit.museum(s.toString());
        int[] together = {99, 99 + 96, 99 + 96 + 95, 99 + 96 + 95 + 94};
        for (int n = 1; n <= 4; n++) {
            due("worth of the best " + n, x.best(n, 1), together[n - 1]);
        }
        due("the best one", x.best(1, 0), 7);
        due("the first of these two", x.best(2, 0), 6);
        due("the first of these four", x.best(4, 0), 4);
    }

    // ROTA: the order of GANGS, each once, in place of the rota .. told behind each of n NIGHTS AHEAD

    private static void rotaBySixty() {
        for (int night : NIGHTS) {
            RotaMuseum x = until(0, night, 0);
            for (int n : new int[] {-1, 0, 1, 2, 59, 60, 61}) {
                boolean can = n >= 1 && n <= most(night);
                due("rota(" + n + ") on " + night, x.rota(n, NONE), can ? 7 * n : NONE);
                due("its turn", x.rota(n, 0), can ? 0 : NONE);
            }
        }
    }

    // Gang i takes thing i alone, once: those of least worth are to go first.
    private static RotaMuseum eachItsOwn(int night, int... worth) {
        StringBuilder s = new StringBuilder("museum 5 keeps 30;");
        int[] rows = new int[2 * worth.length];
        for (int i = 0; i < worth.length; i++) {
            char c = (char) ('a' + i);
            s.append("thing t").append(c).append(" worth ").append(worth[i]).append(" hangs 0;gang g").append(c).append(" at 1;wants g").append(c).append(" t")
                .append(c).append(" 1;");
        }
        return Kit.museumOn(s + "draws wants;", night, rows);
    }

    private static void order(String what, RotaMuseum x, int n, int worth, int... gangs) {
        due(what + ", worth", x.rota(n, NONE), worth);
        for (int k = 0; k < gangs.length; k++) {
            due(what + ", turn " + k, x.rota(n, k), gangs[k]);
        }
        due(what + ", none behind", x.rota(n, gangs.length), NONE);
        due(what + ", none ahead", x.rota(n, -2), NONE);
    }

    private static void rotaOfOneToSix() {
        due("no gangs", Kit.museum("museum 5 keeps 1;thing t worth 7 hangs 0;").rota(1, NONE), NONE);
        due("no gangs", Kit.museum("museum 5 keeps 1;thing t worth 7 hangs 0;").rota(1, 0), NONE);
        order("one", eachItsOwn(0, 60), 1, 0, 0);
        order("two", eachItsOwn(0, 60, 50), 2, 60, 1, 0);
        order("five", eachItsOwn(0, 50, 40, 30, 20, 10), 5, 140 + 120 + 90 + 50, 4, 3, 2, 1, 0);
        order("six, the last order", eachItsOwn(0, 60, 50, 40, 30, 20, 10), 6, 200 + 180 + 150 + 110 + 60, 5, 4, 3, 2, 1, 0);
        order("six, the first order", eachItsOwn(0, 10, 20, 30, 40, 50, 60), 6, 200 + 180 + 150 + 110 + 60, 0, 1, 2, 3, 4, 5);
        order("six, for a while", eachItsOwn(0, 60, 50, 40, 30, 20, 10), 30, 200 + 180 + 150 + 110 + 60, 5, 4, 3, 2, 1, 0);
    }

    // of like ones the first by GANGS
    private static void rotaOfLikeOnes() {
        order("all alike", eachItsOwn(0, 5, 5, 5, 5, 5, 5), 6, 25 + 20 + 15 + 10 + 5, 0, 1, 2, 3, 4, 5);
        order("two alike", eachItsOwn(0, 9, 5, 9, 5), 4, 23 + 18 + 9, 1, 3, 0, 2);
        order("one more", eachItsOwn(0, 9, 6, 9, 5), 4, 24 + 18 + 9, 3, 1, 0, 2);
        // Of those who have no turn in these NIGHTS all are alike.
        order("one night", eachItsOwn(0, 60, 50, 40, 30, 20, 10), 1, 200, 5, 0, 1, 2, 3, 4);
        order("two nights", eachItsOwn(0, 60, 50, 40, 30, 20, 10), 2, 380, 5, 4, 0, 1, 2, 3);
        order("five nights", eachItsOwn(0, 60, 50, 40, 30, 20, 10), 5, 700, 5, 4, 3, 2, 1, 0);
        order("one worth 0", eachItsOwn(0, 7, 0, 0), 3, 14, 1, 2, 0);
    }

    // The NIGHT modulo how many GANGS there are tells whose turn it is.
    private static void rotaOnOtherNights() {
        order("night 1", eachItsOwn(1, 30, 20, 10), 1, 50, 0, 2, 1);
        order("night 2", eachItsOwn(2, 30, 20, 10), 1, 50, 0, 1, 2);
        order("night 3", eachItsOwn(3, 30, 20, 10), 1, 50, 2, 0, 1);
        order("night 2, two nights", eachItsOwn(2, 30, 20, 10), 2, 80, 1, 0, 2);
        order("night 2, three nights", eachItsOwn(2, 30, 20, 10), 3, 80, 1, 0, 2);
        order("night 9998, the last one", eachItsOwn(9998, 30, 20, 10), 1, 50, 0, 1, 2);
        order("night 9993 of six", eachItsOwn(9993, 60, 50, 40, 30, 20, 10), 6, 700, 2, 1, 0, 5, 4, 3);
        due("night 9994 of six, beyond", eachItsOwn(9994, 60, 50, 40, 30, 20, 10).rota(6, NONE), NONE);
    }

    // Each order told as a rota: ROTA is the first of those behind which later() tells most together.
    private static void rotaIsTheBestOfAllOrders() {
        String town = "museum 5 keeps 2;thing a worth 50 hangs 3;thing b worth 7 hangs 0;thing c worth 30 hangs 1;gang f at 1;gang g at 1;gang h at 2;"
            + "wants f b 90;wants g c 30;wants h c 9;wants h b 33;draws wants+worth/5-has*9;may hung<9 or has=0;";
        int[][] orders = {{0, 1, 2}, {0, 2, 1}, {1, 0, 2}, {1, 2, 0}, {2, 0, 1}, {2, 1, 0}};
        for (int night = 0; night < 6; night++) {
            int[] rows = {0, night, 1 + night % 3, 1, 0, 2 * night};
            RotaMuseum x = Kit.museumOn(town, night, rows);
            for (int n = 1; n <= 12; n++) {
                int most = -1;
                int[] found = null;
                for (int[] order : orders) {
                    RotaMuseum y = Kit.museumOn(town + "rota " + (char) ('f' + order[0]) + " " + (char) ('f' + order[1]) + " " + (char) ('f' + order[2]) + ";", night, rows);
                    int together = 0;
                    for (int i = 1; i <= n; i++) {
                        together += y.later(i, 10);
                    }
                    if (together > most) {
                        most = together;
                        found = order;
                    }
                }
                order("night " + night + ", by " + n, x, n, most, found);
            }
        }
    }

    private static void rotaOfLikeOnesOnOtherNights() {
        for (int night = 0; night < 12; night++) {
            order("all alike on night " + night, eachItsOwn(night, 5, 5, 5, 5, 5, 5), 6, 75, 0, 1, 2, 3, 4, 5);
            order("all alike on night " + night + ", one night", eachItsOwn(night, 5, 5, 5, 5, 5, 5), 1, 25, 0, 1, 2, 3, 4, 5);
            order("worth nothing on night " + night, eachItsOwn(night, 0, 0, 0), 3, 0, 0, 1, 2);
        }
        // Those of worth 5 come first by NIGHTS, but of like orders the first is told by turns.
        order("night 1", eachItsOwn(1, 9, 5, 9, 5), 4, 50, 0, 1, 3, 2);
        order("night 2", eachItsOwn(2, 9, 5, 9, 5), 4, 50, 0, 2, 1, 3);
        order("night 3", eachItsOwn(3, 9, 5, 9, 5), 4, 50, 1, 0, 2, 3);
    }

    private static void rotaInPlaceOfTheRota() {
        String town = "museum 5 keeps 30;thing a worth 50 hangs 0;thing b worth 7 hangs 0;gang g at 1;gang h at 2;wants h b 90;";
        order("without a rota", Kit.museum(town), 2, 50, 1, 0);
        order("whatever the rota is", Kit.museum(town + "rota g g g;"), 2, 50, 1, 0);
        due("which stays", Kit.museum(town + "rota g g g;").later(1, 10), 7);
    }

    // A WAY: from the museum to the houses of all GANGS who have a THING he wants to see, in any order, steps of the street; the fewest.

    private static int way(int museum, int... houses) {
        StringBuilder s = new StringBuilder("museum " + museum + " keeps 9;thing z worth 1 hangs 0;");
        StringBuilder sees = new StringBuilder("visitor v sees z");
        int[] rows = new int[2 + 2 * houses.length];
        for (int i = 0; i < houses.length; i++) {
            s.append("thing t").append((char) ('a' + i)).append(" worth 1 hangs 0;gang g").append((char) ('a' + i)).append(" at ").append(houses[i]).append(';');
            sees.append(" t").append((char) ('a' + i));
            rows[2 + 2 * i] = i + 1;
        }
        return Kit.museumOn(s.toString() + sees + ";", 0, rows).way(0);
    }

    private static void wayThroughTheHouses() {
        due("no house", way(50), 0);
        due("at the museum's place", way(50, 50), 0);
        due("one step up", way(50, 51), 1);
        due("one step down", way(50, 49), 1);
        due("from 0 to 99", way(0, 99), 99);
        due("from 99 to 0", way(99, 0), 99);
        due("from 0 to 0", way(0, 0), 0);
        due("both ends, the lower one first", way(49, 0, 99), 49 + 99);
        due("both ends, the upper one first", way(50, 0, 99), 49 + 99);
        due("as far up as down", way(50, 40, 60), 30);
        due("one nearer up", way(50, 40, 59), 28);
        due("one nearer down", way(50, 41, 60), 28);
        due("all on one side", way(10, 12, 90, 40), 80);
        due("all on the other side", way(95, 12, 90, 40), 83);
        due("two in one house", way(50, 60, 60), 10);
        due("six", way(50, 0, 99, 50, 51, 49, 70), 49 + 99);
        due("six on one side", way(0, 10, 20, 30, 40, 50, 99), 99);
    }

    // all GANGS who have a THING he wants to see
    private static void wayToThoseWhoHaveIt() {
        String town = "museum 50 keeps 9;thing a worth 1 hangs 0;thing b worth 1 hangs 0;gang g at 40;gang h at 70;visitor v sees a;visitor w sees a b;";
        RotaMuseum x = Kit.museumOn(town, 0, 0, 0, 2, 0);
        due("a hangs", x.way(0), 0);
        due("b is at 70", x.way(1), 20);
        x = Kit.museumOn(town, 0, 1, 0, 2, 0);
        due("a is at 40, and b is not wanted", x.way(0), 10);
        due("both", x.way(1), 40);
        x = Kit.museumOn(town, 0, 1, 0, 1, 0);
        due("both at 40", x.way(1), 10);
        x = Kit.museumOn(town, 0, STOLEN, 0, 1, 0);
        due("stolen is nowhere", x.way(0), 0);
        due("b is at 40", x.way(1), 10);
    }

    // WAITS: a GANG waits for another one, if that has the THING that it wants most of those others have

    private static void waits(String what, RotaMuseum x, int gang, int owner, int thing, int ring) {
        due(what + ", for whom", x.waits(gang, 0), owner);
        due(what + ", for what", x.waits(gang, 1), thing);
        due(what + ", ring", x.waits(gang, 2), ring);
    }

    private static void waitsForWhatItWantsMost() {
        String town = "museum 5 keeps 9;thing a worth 9 hangs 0;thing b worth 9 hangs 0;thing c worth 9 hangs 0;gang g at 1;gang h at 2;gang i at 3;";
        int[] rows = {2, 0, 3, 0, 2, 0};
        waits("wants nothing", Kit.museumOn(town, 0, rows), 0, NONE, NONE, 0);
        waits("wants 0", Kit.museumOn(town + "wants g b 0;", 0, rows), 0, NONE, NONE, 0);
        waits("wants 1", Kit.museumOn(town + "wants g b 1;", 0, rows), 0, 2, 1, 0);
        waits("98, 99", Kit.museumOn(town + "wants g a 98;wants g b 99;", 0, rows), 0, 2, 1, 0);
        waits("99, 98", Kit.museumOn(town + "wants g a 99;wants g b 98;", 0, rows), 0, 1, 0, 0);
        waits("of like ones the first", Kit.museumOn(town + "wants g b 99;wants g c 99;", 0, rows), 0, 2, 1, 0);
        waits("all alike", Kit.museumOn(town + "wants g a 5;wants g b 5;wants g c 5;", 0, rows), 0, 1, 0, 0);
        waits("the last", Kit.museumOn(town + "wants g a 5;wants g b 5;wants g c 6;", 0, rows), 0, 1, 2, 0);
    }

    private static void waitsForWhatOthersHave() {
        String town = "museum 5 keeps 9;thing a worth 9 hangs 0;thing b worth 9 hangs 0;gang g at 1;gang h at 2;wants g a 99;wants g b 1;";
        waits("both hang", Kit.museum(town), 0, NONE, NONE, 0);
        waits("a hangs", Kit.museumOn(town, 0, 0, 0, 2, 0), 0, 1, 1, 0);
        waits("a is stolen", Kit.museumOn(town, 0, STOLEN, 0, 2, 0), 0, 1, 1, 0);
        waits("a is its own", Kit.museumOn(town, 0, 1, 0, 2, 0), 0, 1, 1, 0);
        waits("both are its own", Kit.museumOn(town, 0, 1, 0, 1, 0), 0, NONE, NONE, 0);
        waits("h has both", Kit.museumOn(town, 0, 2, 0, 2, 0), 0, 1, 0, 0);
    }

    // RING: how many GANGS wait for each other round
    private static void rings() {
        for (int size = 2; size <= 6; size++) {
            StringBuilder s = new StringBuilder("museum 5 keeps 9;");
            int[] rows = new int[12];
            for (int i = 0; i < 6; i++) {
                s.append("thing t").append((char) ('a' + i)).append(" worth 1 hangs 0;gang g").append((char) ('a' + i)).append(" at 1;");
                rows[2 * i] = i + 1;
            }
            for (int i = 0; i < 6; i++) {
                // Those outside the ring wait for one ahead of them.
                int wants = i < size ? (i + 1) % size : i - 1;
                s.append("wants g").append((char) ('a' + i)).append(" t").append((char) ('a' + wants)).append(" 3;");
            }
            RotaMuseum x = Kit.museumOn(s.toString(), 0, rows);
            for (int i = 0; i < 6; i++) {
                int wants = i < size ? (i + 1) % size : i - 1;
                waits("ring of " + size + ", gang " + i, x, i, wants, wants, i < size ? size : 0);
            }
            x.back(0);
            for (int i = 0; i < size; i++) {
                due("one thing hangs: no ring", x.waits(i, 2), 0);
            }
        }
    }

    private static void twoRings() {
        RotaMuseum x = Kit.museumOn("museum 5 keeps 9;thing a worth 1 hangs 0;thing b worth 1 hangs 0;thing c worth 1 hangs 0;thing d worth 1 hangs 0;"
            + "thing e worth 1 hangs 0;gang k at 1;gang l at 1;gang m at 1;gang n at 1;gang o at 1;gang p at 1;wants k c 1;wants m e 1;wants o a 1;wants l d 1;"
            + "wants n b 1;wants p a 1;", 0, 1, 0, 2, 0, 3, 0, 4, 0, 5, 0);
        int[] ring = {3, 2, 3, 2, 3, 0};
        for (int i = 0; i < 6; i++) {
            due("ring of gang " + i, x.waits(i, 2), ring[i]);
        }
    }

    // LOOKED are rows of THING, 1 if it hangs, else 0, on one NIGHT AHEAD (0 .. 60; 0: now)

    private static int looked(RotaMuseum x, int... rows) {
        Kit.feed(x, rows);
        return x.looked();
    }

    private static void lookedOnSixtyOneNights() {
        for (int night : NIGHTS) {
            RotaMuseum x = until(0, night, 0);
            due("always, on " + night, looked(x, 0, 1), most(night) + 1);
            due("first", x.when(0), 0);
            due("last", x.when(most(night)), most(night));
            due("none behind", x.when(most(night) + 1), NONE);
            due("never, on " + night, looked(x, 0, 0), 0);
            due("none", x.when(0), NONE);
        }
        for (int k : new int[] {1, 2, 59, 60, 61}) {
            RotaMuseum x = until(k - 1, 0, 1);
            due("from the " + k + "th on", looked(x, 0, 1), 61 - k);
            due("first", x.when(0), k <= 60 ? k : NONE);
            due("ahead of it", looked(x, 0, 0), k);
            due("first", x.when(0), 0);
            due("last", x.when(k - 1), k - 1);
            due("none behind", x.when(k), NONE);
        }
    }

    // on which of these NIGHTS all was so
    private static void allWasSo() {
        RotaMuseum x = Kit.museumOn("museum 5 keeps 3;thing a worth 1 hangs 9;thing b worth 1 hangs 9;gang g at 1;", 0, 1, 2, STOLEN, 1);
        due("a hangs", looked(x, 0, 1), 59);
        due("behind the second", x.when(0), 2);
        due("b hangs", looked(x, 1, 1), 0);
        due("b does not", looked(x, 1, 0), 61);
        due("a hangs, b does not", looked(x, 0, 1, 1, 0), 59);
        due("neither", looked(x, 1, 0, 0, 0), 2);
        due("the same row twice", looked(x, 0, 0, 0, 0), 2);
        due("a does and does not", looked(x, 0, 0, 0, 1), 0);
    }

    // LIES: rows of GANG, THING, 1 if it says that it has it, else 0: how few of these GANGS must lie

    private static int lies(RotaMuseum x, int... rows) {
        Kit.feed(x, rows);
        return x.lies();
    }

    private static void oneRowNotSo() {
        RotaMuseum x = Kit.museumOn("museum 5 keeps 3;thing a worth 1 hangs 9;thing b worth 1 hangs 9;thing c worth 1 hangs 9;gang g at 1;gang h at 1;gang i at 1;",
            0, 1, 3, 0, 0, STOLEN, 1);
        due("it has it", lies(x, 0, 0, 1), 0);
        due("it has it, and says no", lies(x, 0, 0, 0), 1);
        due("it has it not", lies(x, 1, 0, 0), 0);
        due("it has it not, and says yes", lies(x, 1, 0, 1), 1);
        due("it hangs", lies(x, 0, 1, 1, 1, 1, 1, 2, 1, 1), 3);
        due("it hangs, and none says so", lies(x, 0, 1, 0, 1, 1, 0, 2, 1, 0), 0);
        due("it is stolen", lies(x, 0, 2, 1, 1, 2, 1), 2);
        due("it is stolen, and none says so", lies(x, 0, 2, 0, 1, 2, 0), 0);
        due("one of its rows", lies(x, 0, 0, 1, 0, 1, 0, 0, 2, 1), 1);
        due("two of its rows", lies(x, 0, 0, 0, 0, 1, 1, 0, 2, 0), 1);
        due("both ways: it lies", lies(x, 1, 0, 0, 1, 0, 1), 1);
        due("one of two", lies(x, 0, 0, 1, 1, 0, 1), 1);
        due("now, not when it is brought back", lies(x, 0, 0, 1), 0);
    }

    // AN IMAGE: NIGHT (two bytes, the higher first); for each THING where it is, for how many nights (two bytes); last a byte

    private static void image(String what, RotaMuseum x, int... bytes) {
        due(what + ", bytes", x.image(), bytes.length);
        for (int k = 0; k < bytes.length; k++) {
            due(what + ", byte " + k, x.octet(k), bytes[k]);
        }
        due(what + ", none behind", x.octet(bytes.length), NONE);
    }

    private static void imageBytes() {
        // 137, (5 137 + 0) mod 251 = 183, (5 183 + 0) mod 251 = 162
        image("no town", new RotaMuseum(), 0, 0, 162);
        RotaMuseum x = Kit.museum("museum 5 keeps 30;");
        // 183, (5 183 + 255) mod 251 = 166
        Kit.put(x, 255);
        image("night 255", x, 0, 255, 166);
        // (685 + 1) mod 251 = 184, (920 + 0) mod 251 = 167
        Kit.put(x, 256);
        image("night 256", x, 1, 0, 167);
        // (685 + 39) mod 251 = 222, (1110 + 15) mod 251 = 121
        Kit.put(x, 9999);
        image("night 9999", x, 39, 15, 121);
        RotaMuseum y = Kit.museum("museum 5 keeps 30;thing a worth 1 hangs 0;gang g at 1;gang h at 2;");
        // 183, 162, then 810 mod 251 = 57, 285 mod 251 = 34, 170
        image("one thing", y, 0, 0, 0, 0, 0, 170);
        Kit.put(y, 0, 2, 255);
        // 162, (810 + 2) mod 251 = 59, 295 mod 251 = 44, (220 + 255) mod 251 = 224
        image("the second gang, 255", y, 0, 0, 2, 0, 255, 224);
        Kit.put(y, 0, STOLEN, 256);
        // (810 + 255) mod 251 = 61, (305 + 1) mod 251 = 55, 275 mod 251 = 24
        image("stolen, 256", y, 0, 0, 255, 1, 0, 24);
        Kit.put(y, 0, 0, 999);
        // 57, (285 + 3) mod 251 = 37, (185 + 231) mod 251 = 165
        image("999", y, 0, 0, 0, 3, 231, 165);
    }

    private static void imageOfEight() {
        StringBuilder s = new StringBuilder("museum 5 keeps 30;");
        for (int i = 0; i < 8; i++) {
            s.append("thing t").append((char) ('a' + i)).append(" worth 1 hangs ").append(i).append(';');
        }
        for (int i = 0; i < 6; i++) {
            s.append("gang g").append((char) ('a' + i)).append(" at 1;");
        }
        RotaMuseum x = Kit.museum(s.toString());
        image("at first", x, Kit.image(0, 0, 0, 0, 1, 0, 2, 0, 3, 0, 4, 0, 5, 0, 6, 0, 7));
        int[] rows = {6, 999, 5, 0, 4, 255, 3, 256, 2, 511, 1, 512, 0, 998, STOLEN, 999};
        Kit.put(x, 4660, rows);
        image("all places", x, Kit.image(4660, rows));
        due("27 bytes", x.image(), 27);
    }

    public static void main(String[] args) {
        sixtyNightsLater();
        withoutDraws();
        laterIsWhatComes();
        idleNight();
        seesOnANight();
        seesAllAtOnce();
        bestByOneToFour();
        bestOfLikeOnes();
        bestOfEachGang();
        askedAgain();
        askedBehindEachChange();
        bestBehindWhatIsBroughtBack();
        bestIsWhatMayBeTaken();
        bestWithoutATurn();
        bestOfEight();
        rotaBySixty();
        rotaOfOneToSix();
        rotaOfLikeOnes();
        rotaOnOtherNights();
        rotaIsTheBestOfAllOrders();
        rotaOfLikeOnesOnOtherNights();
        rotaInPlaceOfTheRota();
        wayThroughTheHouses();
        wayToThoseWhoHaveIt();
        waitsForWhatItWantsMost();
        waitsForWhatOthersHave();
        rings();
        twoRings();
        lookedOnSixtyOneNights();
        allWasSo();
        oneRowNotSo();
        imageBytes();
        imageOfEight();
        Kit.finish("EdgeAheadTest");
    }
}
