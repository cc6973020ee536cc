/** Terms II: each limit of a NIGHT, of the seed, of what is KEPT and of ACTS, at it, one below it and one above it. */
public final class EdgeNightTest {
    private static final int NONE = RotaMuseum.NONE;
    private static final int STOLEN = 255;
    // Each NIGHT the one THING is brought back and taken again, by g and h in turn.
    private static final String EACH_NIGHT = "museum 5 keeps 1;thing t worth 1 hangs 0;gang g at 1;gang h at 2;rota g h;";

    private static void due(String what, long got, long want) {
        Kit.due(what, got, want);
    }

    private static void due(String what, boolean got, boolean want) {
        Kit.due(what, got, want);
    }

    private static void where(String what, RotaMuseum x, int thing, int where, int nights) {
        due(what + ", where", x.thing(thing, 2), where);
        due(what + ", nights", x.thing(thing, 3), nights);
    }

    // It is NIGHT 0 at first, all THINGS hang in the museum, each for as long as it must hang.
    private static void atFirst() {
        RotaMuseum x = Kit.museum("museum 5 keeps 5;thing a worth 1 hangs 0;thing b worth 1 hangs 1;thing c worth 1 hangs 29;thing d worth 1 hangs 30;"
            + "gang g at 1;");
        due("night 0", x.has(3), 0);
        where("hangs 0", x, 0, 0, 0);
        where("hangs 1", x, 1, 0, 1);
        where("hangs 29", x, 2, 0, 29);
        where("hangs 30", x, 3, 0, 30);
        due("all can be taken at once", x.gang(0, 2), 15);
    }

    // FIRST what a GANG has had for as many nights as it keeps (or more) is brought back: it HANGS, for 0 nights.

    private static void broughtBackWhenKeptLongEnough() {
        for (int keeps : new int[] {1, 2, 29, 30}) {
            String town = "museum 5 keeps " + keeps + ";thing t worth 1 hangs 9;gang g at 1;";
            int[] had = {keeps - 1, keeps, keeps + 1, 998, 999};
            for (int i = 0; i < had.length; i++) {
                RotaMuseum x = Kit.museumOn(town, 7, 1, had[i]);
                due("nothing is taken", x.nights(1), 0);
                // Behind the NIGHT it has been where it is for one night more.
                where("keeps " + keeps + ", had for " + had[i], x, 0, i == 0 ? 1 : 0, i == 0 ? keeps : 1);
            }
        }
    }

    private static void takenAndBroughtBack() {
        for (int keeps : new int[] {1, 2, 30}) {
            RotaMuseum x = Kit.museum("museum 5 keeps " + keeps + ";thing t worth 1 hangs 0;gang g at 1;rota g;draws 1-night;");
            due("taken", x.nights(1), 1);
            where("taken on night 0", x, 0, 1, 1);
            if (keeps > 1) {
                x.nights(keeps - 1);
            }
            where("kept for " + keeps, x, 0, 1, keeps);
            x.nights(1);
            where("brought back", x, 0, 0, 1);
        }
    }

    // Several at once, of all GANGS, also of one who is not in the rota.
    private static void allAreBroughtBack() {
        RotaMuseum x = Kit.museumOn("museum 5 keeps 3;thing a worth 1 hangs 9;thing b worth 1 hangs 9;thing c worth 1 hangs 9;thing d worth 1 hangs 9;"
            + "gang g at 1;gang h at 1;rota g;", 0, 1, 3, 2, 4, 2, 2, STOLEN, 999);
        x.nights(1);
        where("a", x, 0, 0, 1);
        where("b", x, 1, 0, 1);
        where("c, not yet", x, 2, 2, 3);
        where("d, stolen for good", x, 3, STOLEN, 999);
    }

    // What is brought back can be taken on that NIGHT, if it need not hang; it hangs for 0 nights.
    private static void takenAgainOnTheSameNight() {
        for (int hangs = 0; hangs <= 1; hangs++) {
            RotaMuseum x = Kit.museumOn("museum 5 keeps 2;thing t worth 1 hangs " + hangs + ";gang g at 1;gang h at 1;rota h;", 0, 1, 2);
            due("taken again, hangs " + hangs, x.nights(1), 1 - hangs);
            where("hangs " + hangs, x, 0, hangs == 0 ? 2 : 0, 1);
            due("taken on the next night", x.nights(1), hangs);
        }
        RotaMuseum y = Kit.museumOn("museum 5 keeps 2;thing t worth 1 hangs 0;gang g at 1;rota g;may hung=0 and has=0 and gone=0;", 0, 1, 2);
        due("hung, has and gone are told behind what is brought back", y.nights(1), 1);
        RotaMuseum z = Kit.museumOn("museum 5 keeps 2;thing t worth 1 hangs 0;gang g at 1;rota g;may has=1 or gone=1;", 0, 1, 2);
        due("but not ahead of it", z.nights(1), 0);
    }

    // THEN the GANG whose turn it is (the NIGHT modulo how many the rota tells; nobody without a rota)

    private static void turnsGoRound() {
        String town = "museum 5 keeps 1;thing t worth 1 hangs 0;gang a at 1;gang b at 1;gang c at 1;gang d at 1;gang e at 1;gang f at 1;rota";
        String[] rotas = {" f", " c e", " a b c d e f f e d c b", " b a d c f e a a c c e e"};
        for (String rota : rotas) {
            int turns = rota.length() / 2;
            RotaMuseum x = Kit.museum(town + rota + ";");
            x.nights(3 * turns + 1);
            for (int night = 0; night <= 3 * turns; night++) {
                due("night " + night + " of" + rota, x.kept(night, 1), rota.charAt(2 * (night % turns) + 1) - 'a');
            }
            Kit.put(x, 9950, 0, 0);
            x.nights(49);
            for (int k = 0; k < 49; k++) {
                due("night " + (9950 + k) + " of" + rota, x.kept(k, 1), rota.charAt(2 * ((9950 + k) % turns) + 1) - 'a');
            }
        }
    }

    private static void nobodyWithoutARota() {
        RotaMuseum x = Kit.museum("museum 5 keeps 1;thing t worth 99 hangs 0;gang g at 1;wants g t 99;");
        due("nothing is taken", x.nights(100), 0);
        due("nor by the seed", x.chance(100), 0);
        due("nothing kept", x.has(8), 0);
        due("200 nights", x.has(3), 200);
        due("no draw", x.has(10), 1);
        due("it can be taken", x.gang(0, 2), 1);
    }

    // takes the THING with the greatest SUM of draws, if that is above 0, of like ones the first

    private static int taken(String rest, int... rows) {
        RotaMuseum x = Kit.museumOn("museum 5 keeps 9;thing a worth 5 hangs 0;thing b worth 6 hangs 0;thing c worth 7 hangs 0;gang g at 1;rota g;" + rest, 0, rows);
        x.nights(1);
        return x.has(8) == 0 ? NONE : x.kept(0, 2);
    }

    private static void aboveNothing() {
        int[] all = {0, 0, 0, 0, 0, 0};
        due("0", taken("draws 0;", all), NONE);
        due("1", taken("draws 1;", all), 0);
        due("-1", taken("draws 0-1;", all), NONE);
        due("-1, 0, 1", taken("draws worth-6;", all), 2);
        due("-2, -1, 0", taken("draws worth-7;", all), NONE);
        due("0, -1, -2", taken("draws 5-worth;", all), NONE);
        due("1, 0, -1", taken("draws 6-worth;", all), 0);
        due("-10 to the 6", taken("draws (0-9999)*9999;", all), NONE);
        due("10 to the 6", taken("draws 9999*9999;", all), 0);
    }

    private static void theGreatestOfLikeOnesTheFirst() {
        int[] all = {0, 0, 0, 0, 0, 0};
        due("all alike", taken("draws 3;", all), 0);
        due("the last two alike", taken("draws max(worth,7)-6+min(worth,6);", 0, 0, 0, 0, 0, 0), 1);
        due("the greatest is the last by one", taken("draws worth;", all), 2);
        due("the greatest is the first by one", taken("draws 10-worth;", all), 0);
        due("the middle one", taken("draws 0-(worth-6)*(worth-6)+1;", all), 1);
        due("all above the limit are alike", taken("draws worth*9999*9999;", all), 0);
        due("just below the limit they are not", taken("draws 999*1000+992+worth;", all), 2);
        due("at the limit the last one alone", taken("draws 999*1000+993+worth;", all), 2);
        due("one beyond it the last two are alike", taken("draws 999*1000+994+worth;", all), 1);
        due("two beyond it all are", taken("draws 999*1000+995+worth;", all), 0);
    }

    // worth and wants together without
    private static void worthAndWantsWithout() {
        int[] all = {0, 0, 0, 0, 0, 0};
        due("worth", taken("", all), 2);
        due("one too few", taken("wants g a 1;", all), 2);
        due("alike: the first", taken("wants g a 2;", all), 0);
        due("one more", taken("wants g b 2;", all), 1);
        RotaMuseum x = Kit.museum("museum 5 keeps 9;thing a worth 0 hangs 0;gang g at 1;rota g;");
        due("0 and 0", x.nights(1), 0);
        x = Kit.museum("museum 5 keeps 9;thing a worth 0 hangs 0;gang g at 1;rota g;wants g a 1;");
        due("0 and 1", x.nights(1), 1);
        x = Kit.museum("museum 5 keeps 9;thing a worth 1 hangs 0;gang g at 1;rota g;");
        due("1 and 0", x.nights(1), 1);
        x = Kit.museum("museum 5 keeps 9;thing a worth 99 hangs 0;thing b worth 99 hangs 0;gang g at 1;rota g;wants g a 98;wants g b 99;");
        x.nights(1);
        due("99 and 99", x.kept(0, 2), 1);
    }

    // of those it CAN take: that hang, for as long as they must, and for which the TEST of may holds (without it all)

    private static void hungForAsLongAsItMust() {
        for (int hangs : new int[] {0, 1, 2, 29, 30}) {
            String town = "museum 5 keeps 9;thing t worth 1 hangs " + hangs + ";gang g at 1;rota g;";
            for (int hung = Math.max(0, hangs - 1); hung <= hangs + 1; hung++) {
                RotaMuseum x = Kit.museumOn(town, 0, 0, hung);
                due("hangs " + hangs + ", hung " + hung + ", can", x.gang(0, 2), hung >= hangs ? 1 : 0);
                due("hangs " + hangs + ", hung " + hung + ", taken", x.nights(1), hung >= hangs ? 1 : 0);
            }
            RotaMuseum y = Kit.museumOn(town, 0, 0, 999);
            due("hung 999", y.gang(0, 2), 1);
            y = Kit.museumOn(town, 0, 1, 8);
            due("a gang has it", y.gang(0, 2), 0);
            due("a gang has it", y.nights(1), 0);
            y = Kit.museumOn(town, 0, STOLEN, 999);
            due("stolen", y.gang(0, 2), 0);
            due("stolen", y.nights(1), 0);
        }
    }

    private static void mayHolds() {
        int[] all = {0, 0, 0, 0, 0, 0};
        due("none", taken("may not all;", all), NONE);
        due("all", taken("may all;", all), 2);
        due("worth below 7", taken("may worth<7;", all), 1);
        due("worth below 6", taken("may worth<6;", all), 0);
        due("worth below 5", taken("may worth<5;", all), NONE);
        due("may, then draws", taken("may worth<7;draws 10-worth;", all), 0);
    }

    private static void eachTakesOneANight() {
        RotaMuseum x = Kit.museum("museum 5 keeps 30;thing a worth 1 hangs 0;thing b worth 1 hangs 0;thing c worth 1 hangs 0;gang g at 1;rota g;");
        for (int n = 1; n <= 3; n++) {
            due("one a night", x.nights(1), 1);
            due("left", x.has(5), 3 - n);
        }
        due("none left", x.nights(1), 0);
    }

    // LAST all THINGS have been where they are for one night more (999 at most); the NIGHT is one more (9999 at most).

    private static void nightsOfAThing() {
        String town = "museum 5 keeps 30;thing a worth 1 hangs 0;thing b worth 1 hangs 0;thing c worth 1 hangs 0;gang g at 1;";
        int[][] rows = {{0, 0, 1}, {997, 998, 999}, {998, 999, 999}, {999, 999, 999}};
        for (int[] row : rows) {
            RotaMuseum x = Kit.museumOn(town, 0, 0, row[0], STOLEN, row[0], 1, 0);
            for (int i = 1; i < 3; i++) {
                x.nights(1);
                where("hangs", x, 0, 0, row[0] == 0 ? i : row[i]);
                where("stolen", x, 1, STOLEN, row[0] == 0 ? i : row[i]);
                where("had", x, 2, 1, i);
            }
        }
        RotaMuseum y = Kit.museumOn(town, 0, 0, 900, STOLEN, 899, 0, 898);
        y.nights(100);
        due("999", y.thing(0, 3), 999);
        due("999", y.thing(1, 3), 999);
        due("998", y.thing(2, 3), 998);
        due("by the seed, too", y.chance(1) + y.thing(2, 3), 999);
    }

    private static void hungTellsAtMost999() {
        RotaMuseum x = Kit.museumOn("museum 5 keeps 30;thing a worth 1 hangs 0;gang g at 1;may hung=999;", 0, 0, 997);
        int[] want = {0, 0, 1, 1};
        for (int i = 0; i < want.length; i++) {
            due("hung is 999 behind " + i, x.gang(0, 2), want[i]);
            x.nights(1);
        }
    }

    private static void theLastNight() {
        RotaMuseum x = Kit.museumOn(EACH_NIGHT, 9897, 0, 0);
        due("to 9997", x.nights(100), 100);
        due("9997", x.has(3), 9997);
        due("9998", x.nights(1) * 10000 + x.has(3), 19998);
        due("9999", x.chance(1) * 10000 + x.has(3), 9999);
        Kit.refuses("no night behind 9999", x, 2, () -> x.nights(1) == NONE);
        Kit.refuses("nor by the seed", x, 2, () -> x.chance(1) == NONE);
        due("9999", x.has(3), 9999);
        due("the last night that was kept", x.kept(59, 0), 9998);
    }

    // BY THE SEED the GANG takes nothing, if a DRAW of 100 is below quarrel; else as above.

    private static long next(long seed) {
        return (1103515245L * seed + 12345L) % 2147483648L;
    }

    private static void drawBelowQuarrel() {
        boolean[] met = new boolean[100];
        int left = 100;
        for (int seed = 0; left > 0 && seed < 100000; seed++) {
            int draw = (int) (next(seed) / 64 % 100);
            if (!met[draw]) {
                met[draw] = true;
                left--;
                for (int quarrel = Math.max(0, draw - 1); quarrel <= draw + 2 && quarrel <= 100; quarrel++) {
                    RotaMuseum x = Kit.museum(EACH_NIGHT + "quarrel " + quarrel + ";");
                    x.seed(seed);
                    due("draw " + draw + ", quarrel " + quarrel, x.chance(1), draw < quarrel ? 1 : 0);
                    due("taken, if there was none", x.has(8), draw < quarrel ? 0 : 1);
                    due("the seed", x.has(10), next(seed));
                }
            }
        }
        due("all draws were met", left, 0);
    }

    private static void quarrelNeverAndAlways() {
        RotaMuseum x = Kit.museum(EACH_NIGHT + "quarrel 0;");
        due("quarrel 0", x.chance(100), 0);
        due("all taken", x.has(8), 60);
        x = Kit.museum(EACH_NIGHT + "quarrel 100;");
        due("quarrel 100", x.chance(100), 100);
        due("none taken", x.has(8), 0);
        x = Kit.museum(EACH_NIGHT + "quarrel 100;");
        due("without draws there are none", x.nights(100), 100);
        due("without draws the seed stays", x.has(10), 1);
    }

    // x becomes (1103515245 x + 12345) mod 2 to the 31; floor(x / 64) mod m
    private static void draws() {
        int[] seeds = {0, 1, 2, 63, 64, 1073741823, 1073741824, 2147483646, 2147483647};
        int[] then = {12345, 1103527590, 59559187, 801996044, 1905511289, 2117722572, 1073754169, 2087949151, 1043980748};
        for (int i = 0; i < seeds.length; i++) {
            RotaMuseum x = Kit.museum(EACH_NIGHT + "quarrel 50;");
            x.seed(seeds[i]);
            due("quarrels by " + seeds[i], x.chance(1), then[i] / 64 % 100 < 50 ? 1 : 0);
            due("then", x.has(10), then[i]);
        }
        RotaMuseum y = Kit.museum(EACH_NIGHT + "quarrel 50;");
        long seed = 1;
        int quarrels = 0;
        for (int i = 0; i < 100; i++) {
            seed = next(seed);
            quarrels += seed / 64 % 100 < 50 ? 1 : 0;
        }
        due("a hundred draws", y.chance(100), quarrels);
        due("the seed behind them", y.has(10), seed);
    }

    // made when it is somebody's turn, behind what is brought back
    private static void whenADrawIsMade() {
        RotaMuseum nobody = Kit.museum("museum 5 keeps 1;thing t worth 1 hangs 0;gang g at 1;quarrel 100;");
        due("nobody's turn", nobody.chance(3), 0);
        due("no draw", nobody.has(10), 1);
        RotaMuseum nothing = Kit.museum("museum 5 keeps 1;gang g at 1;rota g;quarrel 100;");
        due("somebody's turn, though there is nothing", nothing.chance(1), 1);
        due("a draw", nothing.has(10), 1103527590);
        RotaMuseum back = Kit.museumOn("museum 5 keeps 1;thing t worth 1 hangs 0;gang g at 1;rota g;quarrel 100;", 0, 1, 1);
        due("a quarrel", back.chance(1), 1);
        where("brought back all the same", back, 0, 0, 1);
        due("a draw a night", back.chance(2), 2);
        due("three draws", back.has(10), next(next(next(1))));
    }

    private static void aQuarrelTakesThatTurnAlone() {
        // By the seed 1 the first DRAW of 100 is 18.
        RotaMuseum x = Kit.museum(EACH_NIGHT + "quarrel 19;");
        due("the first night is a quarrel", x.chance(1), 1);
        due("nothing kept", x.has(8), 0);
        due("the night goes by", x.has(3), 1);
        where("it has hung a night", x, 0, 0, 1);
        x.nights(1);
        due("then it is the second one's turn", x.kept(0, 1), 1);
    }

    // KEPT is each NIGHT on which something was taken: NIGHT, GANG, THING (the last 60 are told).

    private static void sixtyAreTold() {
        for (int n : new int[] {1, 59, 60, 61, 62, 100}) {
            RotaMuseum x = Kit.museum(EACH_NIGHT);
            x.nights(n);
            int told = Math.min(60, n);
            due("told of " + n, x.has(8), told);
            due("the oldest of " + n, x.kept(0, 0), n - told);
            due("whose", x.kept(0, 1), (n - told) % 2);
            due("what", x.kept(0, 2), 0);
            due("the newest of " + n, x.kept(told - 1, 0), n - 1);
            due("whose", x.kept(told - 1, 1), (n - 1) % 2);
            due("none behind", x.kept(told, 0), NONE);
            due("none ahead", x.kept(-1, 0), NONE);
        }
        due("none told at first", Kit.museum(EACH_NIGHT).has(8), 0);
    }

    private static void onlyWhatWasTakenIsKept() {
        RotaMuseum x = Kit.museum("museum 5 keeps 1;thing t worth 1 hangs 2;gang g at 1;rota g;");
        x.nights(1);
        x.nights(1);
        due("brought back, but not taken", x.has(8), 1);
        x.steal(0);
        x.back(0);
        due("stolen is not kept", x.has(8), 1);
        x.nights(3);
        due("taken again on night 4", x.kept(1, 0), 4);
        due("kept", x.has(8), 2);
        RotaMuseum y = Kit.museum(EACH_NIGHT + "quarrel 100;");
        y.nights(2);
        y.chance(2);
        y.nights(2);
        due("not on a night of quarrel", y.has(8), 4);
        due("1", y.kept(1, 0), 1);
        due("4", y.kept(2, 0), 4);
    }

    private static void keptByTheSeed() {
        RotaMuseum x = Kit.museum(EACH_NIGHT);
        x.chance(61);
        due("told", x.has(8), 60);
        due("oldest", x.kept(0, 0), 1);
        due("newest", x.kept(59, 0), 60);
    }

    // The last of all GANGS and THINGS, on the last NIGHT, fits into what is kept.
    private static void theGreatestNumbersKept() {
        StringBuilder s = new StringBuilder("museum 5 keeps 1;");
        for (char c = 'a'; c <= 'h'; c++) {
            s.append("thing t").append(c).append(c == 'h' ? " worth 1 hangs 0;" : " worth 0 hangs 0;");
        }
        for (char c = 'a'; c <= 'f'; c++) {
            s.append("gang g").append(c).append(" at 1;");
        }
        RotaMuseum x = Kit.museum(s + "rota gf;");
        Kit.put(x, 9998, 0, 0, 0, 0, 0, 0, 0, 0, 0, 0, 0, 0, 0, 0, 0, 0);
        due("taken", x.nights(1), 1);
        due("night", x.kept(0, 0), 9998);
        due("gang", x.kept(0, 1), 5);
        due("thing", x.kept(0, 2), 7);
        due("bits", x.gang(5, 1), 128);
    }

    // STOLEN for good is a THING that no GANG has, nor the museum.
    private static void stolenForGood() {
        RotaMuseum x = Kit.museumOn("museum 5 keeps 1;thing a worth 3 hangs 0;thing b worth 4 hangs 0;gang g at 1;rota g;may gone=2;", 0, 1, 0, 0, 5);
        x.steal(0);
        x.steal(1);
        where("from a gang", x, 0, STOLEN, 0);
        where("from the wall", x, 1, STOLEN, 0);
        due("stolen ones", x.has(7), 2);
        due("hang", x.has(5), 0);
        due("worth", x.has(6), 0);
        due("no gang has it", x.gang(0, 1), 0);
        due("none can be taken", x.gang(0, 2), 0);
        x.nights(100);
        where("not brought back", x, 0, STOLEN, 100);
        x.back(0);
        due("gone is 1", x.gang(0, 2), 0);
        RotaMuseum y = Kit.museumOn("museum 5 keeps 9;thing a worth 3 hangs 0;thing b worth 4 hangs 0;thing c worth 4 hangs 0;gang g at 1;may gone=2 and has=1;",
            0, 0, 0, 1, 0, STOLEN, 0);
        due("gone tells both", y.gang(0, 2), 1);
    }

    // brought back (from a GANG, or whoever stole it: it HANGS for 0 nights)
    private static void broughtBackByHand() {
        RotaMuseum x = Kit.museumOn("museum 5 keeps 9;thing a worth 3 hangs 1;thing b worth 4 hangs 0;gang g at 1;rota g;", 0, 1, 5, STOLEN, 6);
        due("from a gang", x.back(0), true);
        where("hangs", x, 0, 0, 0);
        due("it has not hung long enough", x.gang(0, 2), 0);
        due("from whoever", x.back(1), true);
        where("hangs", x, 1, 0, 0);
        due("it can be taken at once", x.gang(0, 2), 2);
        Kit.refuses("it hangs", x, 3, () -> !x.back(0));
    }

    // two GANGS swap a THING each (each had for 0 nights then)
    private static void swapped() {
        RotaMuseum x = Kit.museumOn("museum 5 keeps 9;thing a worth 3 hangs 1;thing b worth 4 hangs 0;thing c worth 4 hangs 0;gang g at 1;gang h at 1;",
            0, 1, 8, 2, 7, 2, 3);
        due("swap", x.swap(0, 1), true);
        where("a", x, 0, 2, 0);
        where("b", x, 1, 1, 0);
        where("c", x, 2, 2, 3);
        x.nights(5);
        where("a is kept anew", x, 0, 2, 5);
        due("swap the other way", x.swap(1, 2), true);
        where("b", x, 1, 2, 0);
        where("c", x, 2, 1, 0);
    }

    // The last 20 can be undone.

    private static void twentyActs() {
        for (int n : new int[] {0, 1, 19, 20, 21, 41}) {
            RotaMuseum x = Kit.museum(EACH_NIGHT);
            for (int i = 0; i < n; i++) {
                x.nights(2);
            }
            int can = Math.min(20, n);
            due("acts of " + n, x.has(9), can);
            for (int i = 1; i <= can; i++) {
                due("undo " + i + " of " + n, x.undo(), true);
                due("night", x.has(3), 2 * (n - i));
                due("left", x.has(9), can - i);
                due("kept", x.has(8), Math.min(60, 2 * (n - i)));
            }
            Kit.refuses("no more of " + n, x, 4, () -> !x.undo());
            due("night", x.has(3), 2 * (n - can));
        }
    }

    // As many NIGHTS as can go by in 20 ACTS, all with something taken: what was told as KEPT ahead of them is told again.
    private static void keptAheadOfTwentyActs() {
        for (int first : new int[] {59, 60, 61, 100}) {
            RotaMuseum x = Kit.museum(EACH_NIGHT);
            x.nights(first);
            for (int i = 0; i < 20; i++) {
                due("taken", x.nights(100), 100);
            }
            for (int i = 19; i >= 0; i--) {
                due("undo", x.undo(), true);
                int night = first + 100 * i;
                int told = Math.min(60, night);
                due("told", x.has(8), told);
                due("the oldest", x.kept(0, 0), night - told);
                due("whose", x.kept(0, 1), (night - told) % 2);
                due("the newest", x.kept(told - 1, 0), night - 1);
            }
            Kit.refuses("no more", x, 4, () -> !x.undo());
        }
    }

    // Acts anew behind some that were undone: the ring goes round.
    private static void actsBehindUndo() {
        RotaMuseum x = Kit.museum(EACH_NIGHT);
        for (int i = 0; i < 15; i++) {
            x.nights(1);
        }
        for (int i = 0; i < 10; i++) {
            x.undo();
        }
        due("5 left", x.has(9), 5);
        for (int i = 0; i < 16; i++) {
            x.nights(3);
        }
        due("20 again", x.has(9), 20);
        due("night", x.has(3), 53);
        for (int i = 0; i < 16; i++) {
            x.undo();
        }
        due("night", x.has(3), 5);
        for (int i = 4; i >= 1; i--) {
            due("undo", x.undo(), true);
            due("night", x.has(3), i);
        }
        due("the 21st of these", x.undo(), false);
        due("night", x.has(3), 1);
        due("kept", x.has(8), 1);
    }

    private static void eachActIsOne() {
        RotaMuseum x = Kit.museum("museum 5 keeps 9;thing a worth 3 hangs 0;thing b worth 4 hangs 0;gang g at 1;gang h at 1;rota g h;quarrel 10;");
        x.nights(100);
        due("100 nights are one", x.has(9), 1);
        x.chance(100);
        due("100 by the seed are one", x.has(9), 2);
        x.steal(0);
        due("steal", x.has(9), 3);
        x.back(0);
        due("back", x.has(9), 4);
        Kit.put(x, 0, 1, 0, 2, 0);
        due("on() leaves none", x.has(9), 0);
        x.swap(0, 1);
        due("swap", x.has(9), 1);
        x.seed(5);
        due("seed() is none", x.has(9), 1);
        x.image();
        x.later(60, 10);
        x.best(4, 0);
        x.rota(60, 0);
        Kit.feed(x, 0, 1);
        x.looked();
        Kit.feed(x, 0, 0, 1);
        x.lies();
        due("nor what is asked", x.has(9), 1);
        x.undo();
        due("undo() is none", x.has(9), 0);
        where("swapped back", x, 0, 1, 0);
        due("nothing is done again", x.undo(), false);
    }

    public static void main(String[] args) {
        atFirst();
        broughtBackWhenKeptLongEnough();
        takenAndBroughtBack();
        allAreBroughtBack();
        takenAgainOnTheSameNight();
        turnsGoRound();
        nobodyWithoutARota();
        aboveNothing();
        theGreatestOfLikeOnesTheFirst();
        worthAndWantsWithout();
        hungForAsLongAsItMust();
        mayHolds();
        eachTakesOneANight();
        nightsOfAThing();
        hungTellsAtMost999();
        theLastNight();
        drawBelowQuarrel();
        quarrelNeverAndAlways();
        draws();
        whenADrawIsMade();
        aQuarrelTakesThatTurnAlone();
        sixtyAreTold();
        onlyWhatWasTakenIsKept();
        keptByTheSeed();
        theGreatestNumbersKept();
        stolenForGood();
        broughtBackByHand();
        swapped();
        twentyActs();
        keptAheadOfTwentyActs();
        actsBehindUndo();
        eachActIsOne();
        Kit.finish("EdgeNightTest");
    }
}
