/** Terms I: each limit of a TOWN, at it, one below it and one above it; each sentence has a test of its own. */
public final class EdgeTownTest {
    private static final int NONE = RotaMuseum.NONE;
    private static final String HEAD = "museum 5 keeps 5;";
    private static final String BASE = HEAD + "thing t worth 5 hangs 5;gang g at 5;visitor v sees t;";
    private static final String[] OWN = ("museum keeps thing worth hangs gang at rota wants sees draws may hung night has gone if or and not all min max"
        + " visitor quarrel").split(" ");
    // None of these is looked into where an 81st STATEMENT would begin.
    private static final String[] ANYTHING = {"quarrel 7;", "museum 5 keeps 5;", "thing", "thing a worth 1 hangs 1;", "x", "visitor", "abcdefghij",
        "visitors", ";", "5", "12345", "(", "A", "\u0000", "\u00ff", "\t"};

    private static void due(String what, long got, long want) {
        Kit.due(what, got, want);
    }

    private static void due(String what, boolean got, boolean want) {
        Kit.due(what, got, want);
    }

    private static String many(String word, int from, int count, String rest) {
        StringBuilder s = new StringBuilder();
        for (int i = from; i < from + count; i++) {
            s.append(word).append(' ').append(word.charAt(0)).append((char) ('a' + i)).append(rest).append(';');
        }
        return s.toString();
    }

    private static String things(int count) {
        return many("thing", 0, count, " worth 1 hangs 1");
    }

    private static String gangs(int count) {
        return many("gang", 0, count, " at 1");
    }

    private static String visitors(int count) {
        return many("visitor", 0, count, " sees ta");
    }

    // { STATEMENT ; } (80 at most)

    private static void eightyStatements() {
        Kit.stands(1, HEAD);
        Kit.stands(2, HEAD + "quarrel 7;");
        Kit.stands(79, HEAD + "quarrel 7;".repeat(78));
        Kit.stands(80, HEAD + "quarrel 7;".repeat(79));
        Kit.fault(6, HEAD + "quarrel 7;".repeat(79) + "^quarrel 7;");
        Kit.fault(6, HEAD + "quarrel 7;".repeat(79) + "^quarrel 7;quarrel 7;");
    }

    private static void theEightyFirstWhateverItIs() {
        String eighty = HEAD + "quarrel 7;".repeat(79);
        for (String what : ANYTHING) {
            Kit.fault(6, eighty.length(), eighty + what);
            Kit.fault(6, eighty.length() + 2, eighty + " \n" + what);
        }
        // The 80th is looked into as any other one.
        String seventyNine = HEAD + "quarrel 7;".repeat(78);
        Kit.fault(1, seventyNine + "^x;");
        Kit.fault(1, seventyNine + "abcdef^gh;");
        Kit.fault(4, seventyNine + "quarrel ^101;");
        Kit.fault(1, seventyNine + "quarrel 7^");
        Kit.stands(80, eighty + " \n\n  ");
    }

    private static void noStatement() {
        Kit.fault(1, "^");
        Kit.fault(1, " ^");
        Kit.fault(1, "\n^");
        Kit.fault(1, " \n \n  ^");
        Kit.fault(1, 1600, " ".repeat(1600));
        Kit.stands(1, " " + HEAD);
    }

    // As long a text as the tape can hold.
    private static void aFullTape() {
        Kit.stands(1, HEAD + " ".repeat(1600 - HEAD.length()));
        Kit.stands(1, " ".repeat(1600 - HEAD.length()) + HEAD);
        Kit.fault(1, 1600, " ".repeat(1601 - HEAD.length()) + HEAD.substring(0, HEAD.length() - 1));
        String start = HEAD + "gang g at 1;thing t worth 1 hangs 0;may 769=1";
        due("as many ones as there is room for", start.length() + 2 * 768 + 1 <= 1600, true);
        RotaMuseum x = Kit.museum(start + "+1".repeat(768) + ";" + " ".repeat(1600 - start.length() - 2 * 768 - 1));
        due("a sum as long as the tape", x.gang(0, 2), 1);
    }

    // museum N keeps N (its PLACE, 0 .. 99; 1 .. 30 nights; the first STATEMENT, and it alone)

    private static void museumPlace() {
        for (int n : new int[] {0, 1, 50, 98, 99}) {
            RotaMuseum x = Kit.museumOn("museum " + n + " keeps 5;thing t worth 1 hangs 1;gang g at 0;visitor v sees t;", 0, 1, 0);
            due("museum at " + n, x.way(0), n);
        }
        for (int n : new int[] {100, 101, 999, 1000, 9999}) {
            Kit.fault(4, "museum ^" + n + " keeps 5;");
        }
    }

    private static void museumKeeps() {
        for (int n : new int[] {1, 2, 29, 30}) {
            String town = "museum 5 keeps " + n + ";thing t worth 1 hangs 1;gang g at 0;";
            RotaMuseum x = Kit.museumOn(town, 0, 1, 0);
            due("keeps " + n + ", not yet", x.later(n, 0), 1);
            due("keeps " + n + ", then", x.later(n + 1, 0), 0);
        }
        for (int n : new int[] {0, 31, 32, 100, 9999}) {
            Kit.fault(4, "museum 5 keeps ^" + n + ";");
        }
        Kit.fault(4, "museum 5 keeps ^00;");
        Kit.fault(4, "museum 5 keeps ^0000;");
    }

    private static void museumFirstAndAlone() {
        for (String word : OWN) {
            if (!word.equals("museum")) {
                Kit.fault(1, 0, word + " a worth 1 hangs 1;" + HEAD);
            }
        }
        Kit.fault(1, "^quarrel 5;" + HEAD);
        Kit.fault(1, HEAD + "^museum 5 keeps 5;");
        Kit.fault(1, HEAD + "quarrel 5;^museum 6 keeps 6;");
        Kit.fault(1, HEAD + "^museum;");
    }

    // A STATEMENT begins with one of nine OWN WORDS alone.
    private static void whatBeginsAStatement() {
        for (String word : OWN) {
            boolean begins = " thing gang rota wants visitor draws may quarrel ".contains(" " + word + " ");
            if (begins) {
                Kit.fault(1, HEAD.length() + word.length() + 1, HEAD + word + " ;");
            } else {
                Kit.fault(1, HEAD.length(), HEAD + word + " ;");
            }
        }
        Kit.fault(1, HEAD + "^t;");
        Kit.fault(1, HEAD + "^;");
        Kit.fault(1, HEAD + "^5;");
    }

    // thing NAME worth N hangs N (0 .. 99; 0 .. 30 nights; 8 THINGS)

    private static void thingWorth() {
        for (int n : new int[] {0, 1, 98, 99}) {
            RotaMuseum x = Kit.museum(HEAD + "thing a worth " + n + " hangs 3;");
            due("worth " + n, x.thing(0, 0), n);
            due("worth " + n + " together", x.has(6), n);
        }
        for (int n : new int[] {100, 101, 1000, 9999}) {
            Kit.fault(4, HEAD + "thing a worth ^" + n + " hangs 3;");
        }
    }

    private static void thingHangs() {
        for (int n : new int[] {0, 1, 29, 30}) {
            RotaMuseum x = Kit.museum(HEAD + "thing a worth 1 hangs " + n + ";");
            due("hangs " + n, x.thing(0, 1), n);
        }
        for (int n : new int[] {31, 32, 100, 9999}) {
            Kit.fault(4, HEAD + "thing a worth 1 hangs ^" + n + ";");
        }
    }

    private static void eightThings() {
        due("no thing", Kit.museum(HEAD).has(0), 0);
        due("1 thing", Kit.museum(HEAD + things(1)).has(0), 1);
        due("7 things", Kit.museum(HEAD + things(7)).has(0), 7);
        due("8 things", Kit.museum(HEAD + things(8)).has(0), 8);
        Kit.fault(6, HEAD + things(8) + "^thing ti worth 1 hangs 1;");
        Kit.fault(6, HEAD + things(8) + "^thing");
        Kit.fault(6, HEAD + things(8) + "^thing ta worth 100;");
        Kit.fault(6, HEAD + things(8) + gangs(6) + "quarrel 3;^thing;");
    }

    // gang NAME at N (its PLACE, 0 .. 99; 6 GANGS)

    private static void gangPlace() {
        for (int n : new int[] {0, 1, 98, 99}) {
            due("gang at " + n, Kit.museum(HEAD + "gang g at " + n + ";").gang(0, 0), n);
        }
        for (int n : new int[] {100, 101, 1000, 9999}) {
            Kit.fault(4, HEAD + "gang g at ^" + n + ";");
        }
    }

    private static void sixGangs() {
        due("no gang", Kit.museum(HEAD).has(1), 0);
        due("1 gang", Kit.museum(HEAD + gangs(1)).has(1), 1);
        due("5 gangs", Kit.museum(HEAD + gangs(5)).has(1), 5);
        due("6 gangs", Kit.museum(HEAD + gangs(6)).has(1), 6);
        Kit.fault(6, HEAD + gangs(6) + "^gang gg at 1;");
        Kit.fault(6, HEAD + gangs(6) + "^gang");
        Kit.fault(6, HEAD + gangs(6) + "^gang ga at 100;");
        Kit.fault(6, HEAD + gangs(6) + things(8) + "^gang;");
    }

    // rota NAME { NAME } (GANGS, 1 to 12, one may be in it more than once; one STATEMENT)

    private static void oneToTwelveTurns() {
        Kit.fault(1, BASE + "rota ^;");
        Kit.fault(1, BASE + "rota^");
        for (int n : new int[] {1, 2, 11, 12}) {
            RotaMuseum x = Kit.museum(BASE + "gang h at 5;rota" + " h g".repeat(6).substring(0, 2 * n) + ";");
            due("turns", x.has(4), n);
            due("the first turn", x.turn(0), 1);
            due("the last turn", x.turn(n - 1), n % 2);
            due("no turn behind", x.turn(n), NONE);
        }
        Kit.fault(6, BASE + "rota" + " g".repeat(12) + " ^g;");
        Kit.fault(6, BASE + "rota" + " g".repeat(12) + " ^g g g g;");
        Kit.fault(3, BASE + "rota" + " g".repeat(11) + " ^x;");
        Kit.fault(1, BASE + "rota" + " g".repeat(11) + " ^thing;");
        Kit.fault(1, BASE + "rota" + " g".repeat(11) + " abcdef^gh;");
    }

    // a letter where a 13th NAME of a rota would begin (whatever it is), at it
    private static void aLetterWhereTheThirteenthWouldBegin() {
        String twelve = BASE + "rota" + " g".repeat(12);
        for (String word : OWN) {
            Kit.fault(6, twelve.length() + 1, twelve + " " + word + ";");
        }
        for (String word : new String[] {"a", "z", "g", "t", "v", "x", "abcdef", "abcdefg", "visitors", "g5", "g g"}) {
            Kit.fault(6, twelve.length() + 1, twelve + "\n" + word + ";");
            Kit.fault(6, twelve.length() + 3, twelve + " \n " + word);
        }
        // What is no letter is judged as elsewhere.
        for (String word : new String[] {"5", "12", "(", "[", ",", "A", "`", "{", "\u00ff", "\t"}) {
            Kit.fault(1, twelve.length() + 1, twelve + " " + word + ";");
        }
        Kit.fault(1, twelve + " 1234^5;");
        Kit.fault(1, twelve + "^5;");
        Kit.fault(1, twelve + "^");
        Kit.stands(5, twelve + ";");
        Kit.stands(5, twelve + " \n ;");
    }

    private static void oneGangMoreThanOnce() {
        RotaMuseum x = Kit.museum(HEAD + gangs(2) + "rota ga ga gb ga gb gb gb ga ga ga ga ga;");
        due("turns of the first", x.gang(0, 3), 8);
        due("turns of the second", x.gang(1, 3), 4);
    }

    private static void oneRota() {
        Kit.stands(4, BASE);
        Kit.stands(5, BASE + "rota g;");
        Kit.fault(6, BASE + "rota g;^rota g;");
        Kit.fault(6, BASE + "rota g;quarrel 5;^rota");
    }

    // wants NAME NAME N (a GANG, a THING, 0 .. 99; the last one of these two counts; 0 without)

    private static void wantsNumber() {
        for (int n : new int[] {0, 1, 98, 99}) {
            due("wants " + n, Kit.museum(BASE + "wants g t " + n + ";").gang(0, 10), n);
        }
        for (int n : new int[] {100, 101, 1000, 9999}) {
            Kit.fault(4, BASE + "wants g t ^" + n + ";");
        }
    }

    private static void theLastWantsCounts() {
        String two = HEAD + things(8) + gangs(6);
        RotaMuseum x = Kit.museum(two + "wants ga ta 9;wants ga tb 8;wants gb ta 7;wants ga ta 3;wants gf th 99;wants gf tg 1;wants gf th 98;");
        due("the last of two", x.gang(0, 10), 3);
        due("another thing", x.gang(0, 11), 8);
        due("another gang", x.gang(1, 10), 7);
        due("the last of both", x.gang(5, 17), 98);
        due("the one ahead of it", x.gang(5, 16), 1);
        due("without", x.gang(5, 10), 0);
        due("without", x.gang(0, 17), 0);
        due("0 counts too", Kit.museum(two + "wants ga ta 9;wants ga ta 0;").gang(0, 10), 0);
    }

    // visitor NAME sees NAME { NAME } (THINGS, unlike ones; 6 VISITORS)

    private static void oneToEightSights() {
        String eight = HEAD + things(8);
        String all = " ta tb tc td te tf tg th";
        Kit.fault(1, eight + "visitor v sees ^;");
        for (int n : new int[] {1, 2, 7, 8}) {
            RotaMuseum x = Kit.museum(eight + "visitor v sees" + all.substring(0, 3 * n) + ";");
            for (int t = 0; t < 8; t++) {
                x.steal(t);
                due("sees " + n + ", without thing " + t, x.sees(0), t < n ? NONE : 0);
                x.undo();
            }
        }
        for (String name : all.trim().split(" ")) {
            Kit.fault(3, eight + "visitor v sees" + all + " ^" + name + ";");
            Kit.fault(3, eight + "visitor v sees " + name + " ^" + name + ";");
        }
        // Unlike ones in one row; another VISITOR may see them, too.
        Kit.stands(11, eight + "visitor v sees ta;visitor w sees ta;");
    }

    private static void sixVisitors() {
        due("no visitor", Kit.museum(HEAD + things(1)).has(2), 0);
        due("1 visitor", Kit.museum(HEAD + things(1) + visitors(1)).has(2), 1);
        due("5 visitors", Kit.museum(HEAD + things(1) + visitors(5)).has(2), 5);
        due("6 visitors", Kit.museum(HEAD + things(1) + visitors(6)).has(2), 6);
        Kit.fault(6, HEAD + things(1) + visitors(6) + "^visitor vg sees ta;");
        Kit.fault(6, HEAD + things(1) + visitors(6) + "^visitor");
        Kit.fault(6, HEAD + things(1) + visitors(6) + "^visitor va sees x;");
    }

    // draws SUM, may TEST (one each); quarrel N (0 .. 100; the last one counts, 0 without)

    private static void oneDrawsOneMay() {
        Kit.stands(2, HEAD + "draws 1;");
        Kit.stands(2, HEAD + "may all;");
        Kit.stands(3, HEAD + "may all;draws 1;");
        Kit.fault(6, HEAD + "draws 1;^draws 1;");
        Kit.fault(6, HEAD + "draws 1;may all;^draws");
        Kit.fault(6, HEAD + "may all;^may all;");
        Kit.fault(6, HEAD + "may all;draws 1;^may");
    }

    private static void quarrelNumber() {
        String rota = BASE + "rota g;";
        // By the seed 1 the first DRAW of 100 is 18.
        int[] told = {0, 1, 17, 18, 19, 99, 100};
        int[] quarrels = {0, 0, 0, 0, 1, 1, 1};
        for (int i = 0; i < told.length; i++) {
            due("quarrel " + told[i], Kit.museum(rota + "quarrel " + told[i] + ";").chance(1), quarrels[i]);
        }
        for (int n : new int[] {101, 102, 1000, 9999}) {
            Kit.fault(4, BASE + "quarrel ^" + n + ";");
        }
        due("without", Kit.museum(rota).chance(100), 0);
        due("the last counts", Kit.museum(rota + "quarrel 0;quarrel 100;").chance(9), 9);
        due("the last counts", Kit.museum(rota + "quarrel 100;quarrel 0;").chance(9), 0);
    }

    // NAMES: 1 to 6 letters, unlike ones (of all sorts), told ahead of where they are asked

    private static void letters() {
        String[] sorts = {"thing ? worth 1 hangs 1;", "gang ? at 1;", "visitor ? sees q;"};
        String base = HEAD + "thing q worth 1 hangs 1;";
        for (int kind = 0; kind < 3; kind++) {
            for (int n : new int[] {1, 2, 5, 6}) {
                String name = "zabyxc".substring(0, n);
                RotaMuseum x = Kit.museum(base + sorts[kind].replace("?", name));
                int which = kind == 0 ? 1 : 0;
                for (int k = 0; k < 6; k++) {
                    due("letter " + k + " of " + name, x.letter(kind, which, k), k < n ? name.charAt(k) - 96 : 0);
                }
            }
            String ahead = base + sorts[kind].split("\\?")[0];
            Kit.fault(1, ahead.length() + 6, base + sorts[kind].replace("?", "zabyxcd"));
            Kit.fault(1, ahead.length() + 6, base + sorts[kind].replace("?", "zabyxcde"));
            Kit.fault(1, ahead.length() + 6, base + sorts[kind].replace("?", "z".repeat(60)));
            Kit.fault(1, ahead.length() + 1, base + sorts[kind].replace("?", ""));
        }
    }

    // Names that are told apart by one letter, or by how many there are.
    private static void namesNearlyAlike() {
        String[] names = {"a", "aa", "aaa", "aaaa", "aaaaa", "aaaaaa", "aaaaab", "baaaaa"};
        StringBuilder s = new StringBuilder(HEAD);
        for (String name : names) {
            s.append("thing ").append(name).append(" worth 1 hangs 1;");
        }
        s.append("gang g at 1;");
        for (int i = 0; i < names.length; i++) {
            s.append("wants g ").append(names[i]).append(' ').append(10 + i).append(';');
        }
        RotaMuseum x = Kit.museum(s.toString());
        for (int i = 0; i < names.length; i++) {
            due("wants " + names[i], x.gang(0, 10 + i), 10 + i);
        }
        Kit.fault(3, s + "wants g ^aaaaac 1;");
        Kit.fault(3, s + "wants g ^b 1;");
    }

    private static void namesUnlikeOfAllSorts() {
        String[] sorts = {"thing ? worth 1 hangs 1;", "gang ? at 1;", "visitor ? sees q;"};
        String base = HEAD + "thing q worth 1 hangs 1;";
        for (String first : sorts) {
            for (String second : sorts) {
                String ahead = base + first.replace("?", "same");
                Kit.fault(2, ahead.length() + second.indexOf('?'), ahead + second.replace("?", "same"));
                Kit.stands(4, ahead + second.replace("?", "samb"));
                Kit.stands(4, ahead + second.replace("?", "sam"));
                Kit.stands(4, ahead + second.replace("?", "samee"));
            }
        }
        // Also the last of the eight, of the six.
        String full = HEAD + things(8) + gangs(5) + visitors(5);
        Kit.fault(2, full + "gang ^th");
        Kit.fault(2, full + "gang ^ge");
        Kit.fault(2, full + "gang ^ve");
        Kit.stands(20, full + "gang tz at 1;");
    }

    private static void namesToldAhead() {
        Kit.fault(3, HEAD + "rota ^g;gang g at 1;");
        Kit.stands(3, HEAD + "gang g at 1;rota g;");
        Kit.fault(3, HEAD + "gang g at 1;rota g ^h;gang h at 1;");
        Kit.fault(3, HEAD + "thing t worth 1 hangs 1;wants ^g t 1;gang g at 1;");
        Kit.fault(3, HEAD + "gang g at 1;wants g ^t 1;thing t worth 1 hangs 1;");
        Kit.fault(3, HEAD + "visitor v sees ^t;thing t worth 1 hangs 1;");
        Kit.fault(3, HEAD + "thing t worth 1 hangs 1;visitor v sees t ^u;thing u worth 1 hangs 1;");
    }

    // 3 a NAME that is none of what is asked
    private static void namesOfAnotherSort() {
        String base = BASE + "thing u worth 1 hangs 1;visitor w sees u;";
        for (String name : new String[] {"t", "u", "v", "w", "x", "abcdef"}) {
            Kit.fault(3, base + "rota ^" + name + ";");
            Kit.fault(3, base + "rota g ^" + name + ";");
            Kit.fault(3, base + "wants ^" + name + " t 1;");
        }
        for (String name : new String[] {"g", "v", "w", "x", "abcdef"}) {
            Kit.fault(3, base + "wants g ^" + name + " 1;");
            Kit.fault(3, base + "visitor y sees ^" + name + ";");
            Kit.fault(3, base + "visitor y sees t ^" + name + ";");
        }
        Kit.fault(3, base + "visitor y sees ^y;");
        Kit.stands(7, base + "visitor y sees u t;");
    }

    // OWN WORDS, which no NAME is; an OWN WORD where a NAME must be
    private static void ownWords() {
        String[] ahead = {"thing ", "gang ", "visitor ", "rota ", "rota g ", "wants ", "wants g ", "visitor w sees ", "visitor w sees t "};
        for (String word : OWN) {
            for (String start : ahead) {
                Kit.fault(1, BASE + start + "^" + word + " worth");
            }
        }
    }

    private static void oneLetterLessOrMoreThanAnOwnWord() {
        for (String word : OWN) {
            Kit.stands(2, HEAD + "gang " + word.substring(0, word.length() - 1) + " at 1;");
            if (word.length() < 6) {
                Kit.stands(2, HEAD + "gang " + word + "x at 1;");
            } else {
                String start = HEAD + "gang ";
                Kit.fault(1, start.length() + 6, start + word + "x at 1;");
            }
        }
        Kit.fault(1, HEAD + "^thin t worth 1 hangs 1;");
        Kit.fault(1, HEAD + "^things t worth 1 hangs 1;");
        Kit.fault(1, HEAD + "^visito v sees t;");
        Kit.fault(1, HEAD + "visito^rs v sees t;");
        Kit.fault(1, HEAD + "visito^s v sees t;");
        Kit.fault(1, HEAD + "quarre^ll 5;");
    }

    // a 7th letter of what is no OWN WORD, a 5th digit at itself, whatever may stand there
    private static void theSeventhLetterWhereverItStands() {
        String[] ahead = {"", "museum ", "museum 5 ", "museum 5 keeps ", "museum 5 keeps 5 ", HEAD, HEAD + "thing ", HEAD + "thing a ",
            HEAD + "thing a worth ", HEAD + "thing a worth 1 ", HEAD + "thing a worth 1 hangs ", HEAD + "thing a worth 1 hangs 1 ",
            HEAD + "gang ", HEAD + "gang a ", HEAD + "gang a at ", HEAD + "gang a at 1 ", BASE + "rota ", BASE + "rota g ", BASE + "wants ",
            BASE + "wants g ", BASE + "wants g t ", BASE + "wants g t 1 ", BASE + "visitor ", BASE + "visitor w ", BASE + "visitor w sees ",
            BASE + "visitor w sees t ", HEAD + "quarrel ", HEAD + "quarrel 5 ", HEAD + "draws ", HEAD + "draws 1 ", HEAD + "draws 1+",
            HEAD + "draws 1*", HEAD + "draws (", HEAD + "draws min ", HEAD + "draws min(", HEAD + "draws min(1,", HEAD + "draws if(", HEAD + "draws if(all,",
            HEAD + "draws if(all,1,", HEAD + "may ", HEAD + "may 1 ", HEAD + "may 1<", HEAD + "may not ", HEAD + "may [", HEAD + "may all ",
            HEAD + "may all and ", HEAD + "may all or ", HEAD + "may all or all and "};
        for (String start : ahead) {
            Kit.fault(1, start.length() + 6, start + "abcdefg;");
            Kit.fault(1, start.length() + 6, start + "museums;");
            Kit.fault(1, start.length() + 6, start + "abcdefgh");
            Kit.fault(1, start.length() + 4, start + "12345;");
            Kit.fault(1, start.length() + 4, start + "00000;");
            Kit.fault(1, start.length() + 4, start + "123456789");
        }
    }

    // NUMBERS: 1 to 4 digits
    private static void digits() {
        Kit.fault(1, "museum ^keeps 5;");
        Kit.stands(1, "museum 5 keeps 5;");
        Kit.stands(1, "museum 05 keeps 05;");
        Kit.stands(1, "museum 005 keeps 005;");
        Kit.stands(1, "museum 0005 keeps 0005;");
        Kit.fault(1, "museum 0000^5 keeps 5;");
        Kit.fault(1, "museum 5 keeps 0000^5;");
        Kit.stands(2, HEAD + "draws 9;");
        Kit.stands(2, HEAD + "draws 999;");
        Kit.stands(2, HEAD + "draws 9999;");
        Kit.fault(1, HEAD + "draws 9999^9;");
        Kit.fault(1, HEAD + "draws 1000^0;");
        Kit.stands(2, HEAD + "draws 0000;");
        due("a number of four digits", canTake("9999=9998+1"), true);
        due("a number of four digits", canTake("0010=10"), true);
    }

    // Blanks (10, 32) are where one likes: no other byte is one.
    private static void everyByteForABlank() {
        for (int b = 0; b < 256; b++) {
            String text = "museum 5 keeps 5" + (char) b + ";";
            if (b == 10 || b == 32) {
                Kit.stands(1, text);
            } else if (b >= '0' && b <= '9') {
                Kit.fault(4, 15, text);
            } else if (b == ';') {
                Kit.fault(1, 17, text);
            } else {
                Kit.fault(1, 16, text);
            }
        }
    }

    private static void everyByteAtFirst() {
        for (int b = 0; b < 256; b++) {
            String text = (char) b + HEAD;
            if (b == 10 || b == 32) {
                Kit.stands(1, text);
            } else if (b >= 'a' && b <= 'z') {
                Kit.fault(1, 6, text);
            } else {
                Kit.fault(1, 0, text);
            }
        }
    }

    private static void everyByteInAName() {
        String start = HEAD + "gang a";
        for (int b = 0; b < 256; b++) {
            String text = start + (char) b + "z at 1;";
            if (b >= 'a' && b <= 'z') {
                Kit.stands(2, text);
            } else if (b == 10 || b == 32) {
                Kit.fault(1, start.length() + 1, text);
            } else {
                Kit.fault(1, start.length(), text);
            }
        }
    }

    private static void everyByteInANumber() {
        String start = HEAD + "draws 1";
        String signs = "+-*/%";
        for (int b = 0; b < 256; b++) {
            String text = start + (char) b + "2;";
            if (b >= '0' && b <= '9' || b < 128 && signs.indexOf(b) >= 0) {
                Kit.stands(2, text);
            } else if (b == 10 || b == 32 || b == ';') {
                Kit.fault(1, start.length() + 1, text);
            } else {
                Kit.fault(1, start.length(), text);
            }
        }
    }

    private static void blanksWhereOneLikes() {
        Kit.stands(9, "museum 5 keeps 5;thing t worth 5 hangs 5;gang g at 5;rota g;wants g t 5;visitor v sees t;draws 1+2*(3);may[all]and not 1<2;quarrel 5;");
        Kit.stands(9, " museum \n 5\nkeeps\n\n5 ; thing\nt\nworth\n5\nhangs\n5\n;\ngang\ng\nat\n5\n;rota \n g\n;wants\ng\nt\n5\n;visitor\nv\nsees\nt\n;draws\n1\n+\n2\n*"
            + " ( 3 )\n; may [ all ] and \n not 1 \n < 2 ; quarrel\n\n5\n; \n");
        Kit.stands(3, HEAD + "draws min ( 1 , max\n(2,3) );may if\n( all , 1 , 2 )=1;");
    }

    // words and numbers side by side need one
    private static void sideBySide() {
        Kit.fault(1, "museum^5 keeps 5;");
        Kit.fault(1, "museum 5^keeps 5;");
        Kit.fault(1, "museum 5 keeps^5;");
        Kit.fault(1, HEAD + "thing a worth^1 hangs 1;");
        Kit.fault(1, HEAD + "thing a worth 1^hangs 1;");
        Kit.fault(1, HEAD + "thing a worth 1 hangs^1;");
        Kit.fault(1, HEAD + "gang a at^1;");
        Kit.fault(1, BASE + "wants g t^1;");
        Kit.fault(1, BASE + "quarrel^1;");
        Kit.fault(1, HEAD + "draws^1;");
        Kit.fault(1, HEAD + "may^1=1;");
        Kit.fault(1, HEAD + "may 1=1^and 2=2;");
        Kit.fault(1, HEAD + "may 1=1 and^2=2;");
        Kit.fault(1, HEAD + "may 1=1^or 2=2;");
        Kit.fault(1, HEAD + "may 1=1 or^2=2;");
        Kit.fault(1, HEAD + "may not^1=1;");
        // Two words without a blank are one.
        Kit.fault(1, HEAD + "^thinga worth 1 hangs 1;");
        Kit.fault(1, HEAD + "gang ^at at 1;");
        Kit.stands(2, HEAD + "gang att at 1;");
        // Signs need none.
        Kit.stands(2, HEAD + "may 1=(1)and[all]or not(1)=1;");
        Kit.stands(2, HEAD + "may[all]and[all]or[all];");
        Kit.stands(2, HEAD + "draws(1)+min(worth,2)*if(all,1,2);");
    }

    // 1 .. at the text's length, if it ends too soon. o: an own word, g: a name that is given, k: a name that is asked, n: a number, s: a sign.
    private static void endsTooSoon() {
        String[] tokens = ("omuseum n55 okeeps n12 s; othing gaaa oworth n77 ohangs n12 s; ogang gbbb oat n99 s; orota kbbb kbbb s; owants kbbb kaaa n55 s;"
            + " ovisitor gccc osees kaaa s; odraws s( oworth s+ n1234 s) s* omin s( ohung s, ohas s) s% oif s( onight s< n12 s, n34 s, ogone s) s; omay onot"
            + " s[ oall oand owants s= n56 s] oor ohangs s> n78 s; oquarrel n10 s;").split(" ");
        StringBuilder text = new StringBuilder();
        String whole = String.join(" ", tokens).replaceAll("(^| )[ogkns]", "$1");
        int statements = 0;
        for (String token : tokens) {
            char kind = token.charAt(0);
            String word = token.substring(1);
            int start = text.length();
            for (int cut = 1; cut < word.length(); cut++) {
                String part = text + word.substring(0, cut);
                int place = kind == 'o' || kind == 'k' ? start : part.length();
                Kit.fault(kind == 'k' ? 3 : 1, place, part);
                cutOff(kind == 'k' ? 3 : 1, place, whole, part.length());
            }
            text.append(word);
            if (!word.equals(";")) {
                cutOff(1, text.length(), whole, text.length());
            }
            if (word.equals(";")) {
                statements++;
                Kit.stands(statements, text.toString());
            } else {
                Kit.fault(1, text.length(), text.toString());
            }
            text.append(' ');
            if (word.equals(";")) {
                Kit.stands(statements, text.toString());
            } else {
                Kit.fault(1, text.length(), text.toString());
            }
        }
    }

    // What stood on the tape behind its end is no part of the text.
    private static void cutOff(int kind, int place, String whole, int length) {
        RotaMuseum x = new RotaMuseum();
        Kit.feed(x, whole);
        x.end(length);
        due("town of " + length + " bytes", x.town(), NONE);
        due("fault of " + length + " bytes", x.fault(0), kind);
        due("place of " + length + " bytes", x.fault(1), place);
    }

    // A number that would be too long, a word that would be another one, if the text went on.
    private static void endsWithinAWord() {
        cutOff(1, 11, "museum 0055555", 11);
        cutOff(4, 7, "museum 1000000 keeps 5;", 11);
        cutOff(1, 9, "museum 9 keeps 5;", 13);
        cutOff(1, 14, "museum 9 keeps5;", 14);
        cutOff(1, HEAD.length() + 11, HEAD + "gang abcdefghi at 1;", HEAD.length() + 11);
        cutOff(1, BASE.length() + 29, BASE + "rota" + " g".repeat(12) + " g;", BASE.length() + 29);
        RotaMuseum x = new RotaMuseum();
        Kit.feed(x, HEAD + "x");
        x.end(HEAD.length());
        due("nothing behind the end", x.town(), 1);
    }

    // FAULTS, the first along the text
    private static void theFirstFaultAlongTheText() {
        Kit.fault(4, "museum ^100 keeps 0;x");
        Kit.fault(4, "museum 99 keeps ^0;x");
        Kit.fault(1, "museum 99 keeps 1;^x museum 100");
        Kit.fault(2, BASE + "gang ^t at 100;");
        Kit.fault(4, BASE + "gang h at ^100;gang t at 1;");
        Kit.fault(3, BASE + "wants ^x t 100;");
        Kit.fault(3, BASE + "wants g ^x 100;");
        Kit.fault(4, BASE + "wants g t ^100 abcdefg;");
        Kit.fault(2, BASE + "thing ^g5 worth 100;");
        Kit.fault(3, BASE + "rota ^x5;");
        Kit.fault(4, "museum ^100keeps 5;");
        Kit.fault(1, "museum^12345 keeps 5;");
        Kit.fault(6, BASE + "draws 1;^draws x;");
        Kit.fault(5, HEAD + "draws (((((((^(x");
        Kit.fault(1, HEAD + "draws (((((((^x(");
    }

    // 5 the 8th ( [ not that is open at once (not until its FACT ends), at it

    private static void sevenOpenOfEachKind() {
        String[] opens = {"(", "min(", "max(", "if(all,", "if(all,1,", "min(1,", "if(1=", "if(1=1 and "};
        String[] ends = {")", ",1)", ",1)", ",1)", ")", ")", ",1,2)", "=1,1,2)"};
        for (int i = 0; i < opens.length; i++) {
            String seven = HEAD + "draws " + opens[i].repeat(7);
            String close = ends[i].repeat(7);
            Kit.stands(2, HEAD + "draws " + opens[i].repeat(6) + "1" + ends[i].repeat(6) + ";");
            Kit.stands(2, seven + "1" + close + ";");
            Kit.stands(2, seven + "1" + close + "+" + opens[i].repeat(7) + "1" + close + ";");
            int at = opens[i].indexOf('(');
            Kit.fault(5, seven.length() + at, seven + opens[i] + "1" + ends[i].repeat(8) + ";");
            Kit.fault(5, seven.length() + at, seven + opens[i].substring(0, at + 1));
        }
        String m = HEAD + "may ";
        Kit.stands(2, m + "[".repeat(6) + "all" + "]".repeat(6) + ";");
        Kit.stands(2, m + "[".repeat(7) + "all" + "]".repeat(7) + ";");
        Kit.fault(5, m + "[".repeat(7) + "^[all" + "]".repeat(8) + ";");
        Kit.stands(2, m + "not ".repeat(6) + "all;");
        Kit.stands(2, m + "not ".repeat(7) + "all;");
        Kit.stands(2, m + "not ".repeat(7) + "1=1;");
        Kit.fault(5, m + "not ".repeat(7) + "^not all;");
        Kit.fault(5, m + "not ".repeat(7) + "^not");
        Kit.fault(5, m + "not ".repeat(7) + "^[all];");
        Kit.fault(5, m + "not ".repeat(7) + "^(1)=1;");
        Kit.fault(5, m + "not ".repeat(7) + "1=^(1);");
        Kit.fault(5, m + "not ".repeat(7) + "1=min^(1,2);");
    }

    private static void openOfAllKindsTogether() {
        String m = HEAD + "may ";
        Kit.stands(2, m + "not [not (min(max(if(all,1,2),3),4))=5];");
        Kit.fault(5, m + "not [not (min(max(if(^[all],1,2),3),4))=5];");
        Kit.fault(5, m + "not [not (min(max(if(^not all,1,2),3),4))=5];");
        Kit.fault(5, m + "not [not (min(max(if(^(1)=1,1,2),3),4))=5];");
        Kit.fault(5, m + "not [not (min(max(if(all,max^(1,2),2),3),4))=5];");
        // Behind a ) one less is open.
        Kit.stands(2, m + "not [not (min(max(if(all,1,2),3),(4)))=(5)];");
        Kit.stands(2, m + "not [not (min(max(3,if(all,1,2)),max((4),(5))))=(5)];");
    }

    // not until its FACT ends
    private static void notEndsWithItsFact() {
        String m = HEAD + "may ";
        Kit.stands(2, m + "not all and ".repeat(20) + "not all;");
        Kit.stands(2, m + "not all or ".repeat(20) + "not all;");
        Kit.stands(2, m + "not ".repeat(7) + "all and " + "not ".repeat(7) + "all or " + "(".repeat(7) + "1" + ")".repeat(7) + "=1;");
        Kit.stands(2, m + "not ".repeat(6) + "[all] and [" + "not ".repeat(6) + "all];");
        Kit.stands(2, m + "not ".repeat(7) + "1<2 and " + "[".repeat(7) + "all" + "]".repeat(7) + ";");
        // Its FACT goes on to the end of the second SUM.
        Kit.fault(5, m + "not ".repeat(6) + "(1)=(^(1));");
        Kit.stands(2, m + "not ".repeat(6) + "(1)=(1);");
        Kit.fault(5, m + "[" + "not ".repeat(6) + "1+2=3*^(1)];");
        Kit.stands(2, m + "[" + "not ".repeat(6) + "1+2=3*1 and (1)=" + "(".repeat(6) + "1" + ")".repeat(6) + "];");
        Kit.fault(5, m + "[" + "not ".repeat(6) + "1+2=3*1 and (1)=" + "(".repeat(6) + "^(1)" + ")".repeat(6) + "];");
    }

    // What can't stand there is FAULT 1, even as the 8th.
    private static void theEighthWhereNoneMayStand() {
        Kit.fault(1, HEAD + "draws " + "(".repeat(7) + "^[");
        Kit.fault(1, HEAD + "draws " + "(".repeat(7) + "^not");
        Kit.fault(1, HEAD + "draws " + "(".repeat(7) + "1^(");
        Kit.fault(1, HEAD + "may " + "[".repeat(7) + "all^[");
        Kit.fault(1, HEAD + "may " + "[".repeat(7) + "all ^not");
    }

    // ---- what a SUM gives

    // Whether the TEST holds of a THING of worth 99 that the GANG wants 98, that has hung 12 nights and must 7, on NIGHT 11, has 1, gone 3.
    private static boolean canTake(String test) {
        RotaMuseum x = Kit.museumOn(HEAD + "thing t worth 99 hangs 7;thing u worth 1 hangs 1;thing v worth 1 hangs 1;thing w worth 1 hangs 1;"
            + "gang g at 1;gang h at 1;wants g t 98;may " + test + ";", 11, 0, 12, 1, 0, 2, 0, 255, 0);
        return (x.gang(0, 2) & 1) != 0;
    }

    private static void is(String sum, int want) {
        String told = want < 0 ? "0-" + numberAs(-want) : numberAs(want);
        due(sum + " is " + want, canTake(sum + "=" + told), true);
        due(sum + " is above " + (want - 1), canTake(sum + ">" + told + "-1") || want == -1000000, true);
        due(sum + " is below " + (want + 1), canTake(sum + "<" + told + "+1") || want == 1000000, true);
    }

    // A number of more than four digits by smaller ones; behind 0 - it must be one PRODUCT.
    private static String numberAs(int n) {
        return n <= 9999 ? "" + n : "(" + n / 1000 + "*1000+" + n % 1000 + ")";
    }

    private static void whatIsGiven() {
        is("worth", 99);
        is("wants", 98);
        is("hung", 12);
        is("hangs", 7);
        is("night", 11);
        is("has", 1);
        is("gone", 3);
    }

    // / gives the greatest whole number not above, % what is left (a less b times that)
    private static void division() {
        int[] all = {-8, -7, -6, -1, 0, 1, 6, 7, 8};
        int[] by = {-9, -3, -2, -1, 1, 2, 3, 9};
        for (int a : all) {
            for (int b : by) {
                int down = (int) Math.floor((double) a / b);
                is("(" + a(a) + ")/(" + a(b) + ")", down);
                is("(" + a(a) + ")%(" + a(b) + ")", a - b * down);
            }
        }
        is("(0-1000*1000)/(0-1)", 1000000);
        is("(0-1000*1000)/1", -1000000);
        is("(0-1)/(1000*1000)", -1);
        is("1/(0-1000*1000)", -1);
        is("(0-1)%(1000*1000)", 999999);
        is("1%(0-1000*1000)", -999999);
    }

    private static String a(int n) {
        return n < 0 ? "0-" + -n : "" + n;
    }

    // by 0 both give 0
    private static void byNothing() {
        for (String a : new String[] {"0", "1", "9999", "(0-1)", "(1000*1000)", "(0-1000*1000)", "worth"}) {
            is(a + "/0", 0);
            is(a + "%0", 0);
            is(a + "/(1-1)", 0);
            is(a + "%(has-1)", 0);
        }
        is("7/0+3", 3);
        is("2*7%0", 0);
        is("7/1", 7);
        is("7%1", 0);
        is("7/(0-1)", -7);
        is("7%(0-1)", 0);
    }

    // each result above 10 to the 6 is that
    private static void aboveTheLimit() {
        is("999*1000+999", 999999);
        is("999*1000+1000", 1000000);
        is("999*1000+1001", 1000000);
        is("999*1000+1001-1", 999999);
        is("1000*1000+1", 1000000);
        is("1000*1000+1-1", 999999);
        is("1-(0-1000*1000)", 1000000);
        is("1-(0-1000*1000)-1", 999999);
        is("0-(0-1000*1000)", 1000000);
        is("999*1001", 999999);
        is("1000*1000", 1000000);
        is("1001*1000", 1000000);
        is("1001*1000-1", 999999);
        is("1001*999", 999999);
        is("9999*9999", 1000000);
        is("9999*9999/2", 500000);
        is("1000*1000*1000*1000*1000", 1000000);
        is("(0-1000*1000)*(0-1000*1000)", 1000000);
        is("9999*9999*9999*9999-1", 999999);
        is("max(9999*9999,1)", 1000000);
        is("if(all,9999*9999,1)-1", 999999);
    }

    // below -10 to the 6 likewise
    private static void belowTheLimit() {
        is("0-999*1000-999", -999999);
        is("0-999*1000-1000", -1000000);
        is("0-999*1000-1001", -1000000);
        is("0-999*1000-1001+1", -999999);
        is("0-1000*1000-1", -1000000);
        is("0-1000*1000-1+1", -999999);
        is("(0-1000*1000)+(0-1)+1", -999999);
        is("(0-999)*1001", -999999);
        is("(0-1000)*1000", -1000000);
        is("(0-1001)*1000", -1000000);
        is("(0-1001)*1000+1", -999999);
        is("9999*(0-9999)", -1000000);
        is("9999*(0-9999)*9999*9999+1", -999999);
        is("(0-1000*1000)*(1000*1000)", -1000000);
        is("min(9999*(0-9999),1)", -1000000);
    }

    // All from the left on
    private static void fromTheLeftOn() {
        is("10-3-2", 5);
        is("10-3+2", 9);
        is("100/7/2", 7);
        is("100/7*2", 28);
        is("100*2/7", 28);
        is("100%7*3", 6);
        is("3*100%7", 6);
        is("2+3*4", 14);
        is("2*3+4", 10);
        is("20-6/4*2", 18);
        is("2-3*4-5", -15);
        is("(2-3)*4-5", -9);
    }

    private static void leastAndMost() {
        is("min(2,3)", 2);
        is("min(3,2)", 2);
        is("min(2,2)", 2);
        is("max(2,3)", 3);
        is("max(3,2)", 3);
        is("max(3,3)", 3);
        is("min(0-1,0)", -1);
        is("max(0-1,0)", 0);
    }

    // the first SUM where the TEST holds, else the second one
    private static void choice() {
        is("if(1<2,5,6)", 5);
        is("if(2<2,5,6)", 6);
        is("if(3<2,5,6)", 6);
        is("if(3>2,5,6)", 5);
        is("if(2>2,5,6)", 6);
        is("if(1>2,5,6)", 6);
        is("if(1=2,5,6)", 6);
        is("if(2=2,5,6)", 5);
        is("if(3=2,5,6)", 6);
        is("if(all,5,6)", 5);
        is("if(not all,5,6)", 6);
        is("if(all,if(not all,1,2),3)", 2);
    }

    // TEST: BOTH { or BOTH }. BOTH: FACT { and FACT }. FACT: not FACT; [ TEST ]
    private static void testsTogether() {
        String[] facts = {"not all", "all"};
        for (int bits = 0; bits < 8; bits++) {
            boolean p = (bits & 1) != 0;
            boolean q = (bits & 2) != 0;
            boolean r = (bits & 4) != 0;
            String a = facts[bits & 1];
            String b = facts[bits >> 1 & 1];
            String c = facts[bits >> 2];
            due(a + " or " + b + " and " + c, canTake(a + " or " + b + " and " + c), p || q && r);
            due(a + " and " + b + " or " + c, canTake(a + " and " + b + " or " + c), p && q || r);
            due("[" + a + " or " + b + "] and " + c, canTake("[" + a + " or " + b + "] and " + c), (p || q) && r);
            due("not " + a + " and " + b, canTake("not " + a + " and " + b), !p && q);
            due("not [" + a + " and " + b + "]", canTake("not [" + a + " and " + b + "]"), !(p && q));
            due("not not " + a + " or not " + c, canTake("not not " + a + " or not " + c), p || !r);
        }
    }

    private static void signsTogether() {
        String[] hold = {"1<2", "2>1", "2=2", "0-1<0", "9999>9998", "[3>2]", "not 2>3"};
        String[] fail = {"2<2", "3<2", "2>2", "1>2", "1=2", "not 3>2", "[1>2]"};
        for (String a : hold) {
            due(a, canTake(a), true);
            due("not " + a, canTake("not " + a), false);
            due("not not " + a, canTake("not not " + a), true);
            for (String b : hold) {
                due(a + " and " + b, canTake(a + " and " + b), true);
                due(a + " or " + b, canTake(a + " or " + b), true);
            }
            for (String b : fail) {
                due(a + " and " + b, canTake(a + " and " + b), false);
                due(b + " and " + a, canTake(b + " and " + a), false);
                due(a + " or " + b, canTake(a + " or " + b), true);
                due(b + " or " + a, canTake(b + " or " + a), true);
            }
        }
        for (String a : fail) {
            due(a, canTake(a), false);
            due("not " + a, canTake("not " + a), true);
            for (String b : fail) {
                due(a + " and " + b, canTake(a + " and " + b), false);
                due(a + " or " + b, canTake(a + " or " + b), false);
            }
        }
    }

    // Whichever of draws and may comes first in the text.
    private static void drawsAndMay() {
        String base = HEAD + "thing a worth 1 hangs 0;thing b worth 2 hangs 0;thing c worth 3 hangs 0;gang g at 1;rota g;";
        for (String both : new String[] {"may worth<3;draws worth*2;", "draws worth*2;may worth<3;"}) {
            RotaMuseum x = Kit.museum(base + both);
            due("can take, " + both, x.gang(0, 2), 3);
            due("takes, " + both, x.nights(1), 1);
            due("takes b, " + both, x.kept(0, 2), 1);
        }
        for (String both : new String[] {"may worth>1;draws 3-worth;", "draws 3-worth;may worth>1;"}) {
            RotaMuseum x = Kit.museum(base + both);
            due("can take, " + both, x.gang(0, 2), 6);
            due("takes one alone, " + both, x.nights(5), 1);
            due("takes b, " + both, x.kept(0, 2), 1);
        }
    }

    // As long a formula as can be, again and again, and a shorter one behind it.
    private static void oneFormulaBehindAnother() {
        RotaMuseum x = new RotaMuseum();
        String base = HEAD + "gang g at 1;thing t worth 1 hangs 0;may ";
        for (int i = 0; i < 4; i++) {
            Kit.town(x, base + "700=1" + "+1".repeat(699) + ";");
            due("a long one", x.gang(0, 2), 1);
            Kit.town(x, base + "700=2" + "+1".repeat(699) + ";");
            due("a long one", x.gang(0, 2), 0);
            Kit.town(x, base + "not all;");
            due("a short one", x.gang(0, 2), 0);
            Kit.town(x, base + "not all;");
            due("a short one", x.gang(0, 2), 0);
            Kit.town(x, base + "all;");
            due("a shorter one", x.gang(0, 2), 1);
            Kit.town(x, base + "all;");
            due("a shorter one", x.gang(0, 2), 1);
        }
    }

    // Nothing of what was read before is left in a text that is read later, whether it stood or had a FAULT.
    private static void oneTownBehindAnother() {
        String full = "museum 9 keeps 9;" + things(8) + gangs(6) + visitors(6) + "rota ga gb;wants ga ta 9;wants gf th 8;draws 7*worth;may not all;quarrel 100;";
        String[] between = {full, full + "x", HEAD + "draws (((((((1", HEAD + "may not not not not not not [all", things(3)};
        RotaMuseum x = new RotaMuseum();
        for (String text : between) {
            Kit.town(x, full);
            Kit.town(x, text);
            // Names of before are free, rota, draws and may can be told again.
            String small = HEAD + "thing a worth 5 hangs 0;gang tb at 1;gang ga at 1;thing gb worth 0 hangs 0;visitor th sees gb;";
            due("small", Kit.town(x, small), 6);
            due("no rota", x.has(4), 0);
            due("no turn", x.gang(1, 3), 0);
            due("things", x.has(0), 2);
            due("gangs", x.has(1), 2);
            due("visitors", x.has(2), 1);
            for (int gang = 0; gang < 2; gang++) {
                due("wants nothing", x.gang(gang, 10) + x.gang(gang, 11), 0);
                due("can take all", x.gang(gang, 2), 3);
            }
            x.steal(0);
            due("sees no other thing", x.sees(0), 0);
            due("no more names", x.letter(0, 2, 0), NONE);
            due("again", Kit.town(x, small + "rota ga;draws (((((((1)))))));may not not not not not not not not all;"), NONE);
            due("fault 5", x.fault(0), 5);
            due("again", Kit.town(x, small + "rota ga;draws (((((((1)))))));may [[[[[[[all]]]]]]];"), 9);
            due("no quarrel", x.chance(50), 0);
            due("it takes what draws 1", x.has(8) > 0, true);
            due("again, without", Kit.town(x, small + "rota ga;"), 7);
            due("draws by worth", x.nights(1), 1);
            due("the first thing", x.kept(0, 2), 0);
            due("not what is worth 0", x.nights(1), 0);
            due("names of before are not asked", Kit.town(x, small + "wants ga ta 5;"), NONE);
            due("fault 3", x.fault(0), 3);
        }
    }

    public static void main(String[] args) {
        eightyStatements();
        theEightyFirstWhateverItIs();
        noStatement();
        aFullTape();
        museumPlace();
        museumKeeps();
        museumFirstAndAlone();
        whatBeginsAStatement();
        thingWorth();
        thingHangs();
        eightThings();
        gangPlace();
        sixGangs();
        oneToTwelveTurns();
        aLetterWhereTheThirteenthWouldBegin();
        oneGangMoreThanOnce();
        oneRota();
        wantsNumber();
        theLastWantsCounts();
        oneToEightSights();
        sixVisitors();
        oneDrawsOneMay();
        quarrelNumber();
        letters();
        namesNearlyAlike();
        namesUnlikeOfAllSorts();
        namesToldAhead();
        namesOfAnotherSort();
        ownWords();
        oneLetterLessOrMoreThanAnOwnWord();
        theSeventhLetterWhereverItStands();
        digits();
        everyByteForABlank();
        everyByteAtFirst();
        everyByteInAName();
        everyByteInANumber();
        blanksWhereOneLikes();
        sideBySide();
        endsTooSoon();
        endsWithinAWord();
        theFirstFaultAlongTheText();
        sevenOpenOfEachKind();
        openOfAllKindsTogether();
        notEndsWithItsFact();
        theEighthWhereNoneMayStand();
        whatIsGiven();
        division();
        byNothing();
        aboveTheLimit();
        belowTheLimit();
        fromTheLeftOn();
        leastAndMost();
        choice();
        testsTogether();
        signsTogether();
        drawsAndMay();
        oneTownBehindAnother();
        oneFormulaBehindAnother();
        Kit.finish("EdgeTownTest");
    }
}
