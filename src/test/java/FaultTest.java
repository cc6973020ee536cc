/** Promises 4 and 5: texts with their FAULT and its place, told by a mark. */
public final class FaultTest {
    private static final String HEAD = "museum 5 keeps 5;";
    private static final String BASE = HEAD + "thing t worth 5 hangs 5;thing u worth 5 hangs 5;gang g at 5;visitor v sees t;";

    private static void fault(int kind, String marked) {
        Kit.fault(kind, marked);
    }

    private static void stands(int statements, String text) {
        Kit.stands(statements, text);
    }

    private static void first() {
        fault(1, "^");
        fault(1, "   \n ^");
        fault(1, "^;");
        fault(1, "^thing a worth 1 hangs 1;");
        fault(1, "^museu");
        fault(1, "^Museum 5 keeps 5;");
        fault(1, "museum^");
        fault(1, "museum  ^");
        fault(1, "museum ^x");
        fault(1, "museum^5 keeps 5;");
        fault(1, "museum 5^keeps 5;");
        fault(1, "museum 5 ^;");
        fault(1, "museum 5 ^keep 5;");
        fault(1, "museum 5 keeps^");
        fault(1, "museum 5 keeps 5^");
        fault(1, "museum 5 keeps 5 \n^");
        fault(1, "museum 5 keeps 5 ^5;");
        fault(1, "museum 5 keeps 5^\t;");
        fault(1, "museum 5 keeps 5^\u00ff;");
        fault(1, HEAD + "^;");
        fault(1, HEAD + "^museum 5 keeps 5;");
        fault(1, HEAD + "^keeps;");
        fault(1, HEAD + "^5;");
        fault(1, HEAD + "^t;");
        fault(1, HEAD + "thing ^5");
        fault(1, HEAD + "thing ^thing worth");
        fault(1, HEAD + "thing ^quarrel");
        fault(1, HEAD + "thing ^max");
        fault(1, HEAD + "thing t^5 worth 5");
        fault(1, HEAD + "thing t ^hangs 5");
        fault(1, HEAD + "gang ^visitor at 5;");
        fault(1, BASE + "rota ^;");
        fault(1, BASE + "rota ^all;");
        fault(1, BASE + "rota g ^worth;");
        fault(1, BASE + "rota g ^5;");
        fault(1, BASE + "wants g t ^t 5;");
        fault(1, BASE + "wants ^5");
        fault(1, BASE + "wants g t^5;");
        fault(1, BASE + "visitor w sees ^;");
        fault(1, BASE + "visitor w sees t u ^,");
        fault(1, BASE + "quarrel^5;");
        fault(1, BASE + "quarrel ^-5;");
    }

    private static void longOnes() {
        fault(1, "museum^s 5");
        fault(1, "museum 1000^0 keeps 5;");
        fault(1, "museum 0000^5 keeps 5;");
        fault(1, "museum 5 1234^5");
        fault(1, "museum 5 keeper^s 5;");
        fault(1, HEAD + "visito^rs v sees t;");
        fault(1, HEAD + "thing abcdef^g worth 5 hangs 5;");
        fault(1, HEAD + "thing t worth abcdef^ghij");
        fault(1, HEAD + "quarrel 5 abcdef^g;");
        fault(1, HEAD + "draws 1 abcdef^g;");
        fault(1, HEAD + "draws 1234^5;");
        fault(1, HEAD + "draws 12 1234^5;");
        fault(1, BASE + "rota abcdef^g;");
        // The blank that is missing comes ahead of the 5th digit.
        fault(1, "museum^12345 keeps 5;");
        fault(4, "museum ^100keeps 5;");
    }

    private static void names() {
        fault(2, BASE + "thing ^t");
        fault(2, BASE + "thing ^g worth 500");
        fault(2, BASE + "gang ^v at 5;");
        fault(2, BASE + "gang ^g5");
        fault(2, BASE + "visitor ^v sees t;");
        fault(2, BASE + "visitor ^u sees t;");
        fault(3, HEAD + "rota ^g;gang g at 5;");
        fault(3, BASE + "rota ^t;");
        fault(3, BASE + "rota g g ^v;");
        fault(3, BASE + "rota ^x5;");
        fault(3, BASE + "wants ^t g 5;");
        fault(3, BASE + "wants g ^g 5;");
        fault(3, BASE + "wants g ^v 5;");
        fault(3, BASE + "visitor w sees ^g;");
        fault(3, BASE + "visitor w sees ^w;");
        fault(3, BASE + "visitor w sees t u ^t;");
        fault(3, BASE + "visitor w sees t ^t5;");
        stands(6, BASE + "thing tt worth 5 hangs 5;");
        stands(6, BASE + "gang abcdef at 5;");
    }

    private static void numbers() {
        fault(4, "museum ^100 keeps 5;");
        fault(4, "museum 99 keeps ^0;");
        fault(4, "museum 99 keeps ^31;");
        fault(4, HEAD + "thing t worth ^100 hangs 5;");
        fault(4, HEAD + "thing t worth 99 hangs ^31;");
        fault(4, HEAD + "gang g at ^100;");
        fault(4, BASE + "wants g t ^100;");
        fault(4, BASE + "quarrel ^101;");
        stands(1, "museum 99 keeps 30;");
        stands(1, "museum 0 keeps 1;");
        stands(1, "museum 0099 keeps 0001;");
        stands(2, HEAD + "thing t worth 99 hangs 30;");
        stands(2, HEAD + "thing t worth 0 hangs 0;");
        stands(6, BASE + "wants g t 99;");
        stands(7, BASE + "quarrel 100;quarrel 0;");
        stands(2, HEAD + "draws 9999;");
        stands(1, "\n museum\n5 keeps 5 ; \n");
    }

    private static void formulas() {
        String d = HEAD + "draws ";
        String m = HEAD + "may ";
        fault(1, d + "^;");
        fault(1, d + "1+^;");
        fault(1, d + "1+^*2;");
        fault(1, d + "^-1;");
        fault(1, d + "1^(2);");
        fault(1, d + "(1^;");
        fault(1, d + "(1^]");
        fault(1, d + "1^)");
        fault(1, d + "min ^1,2)");
        fault(1, d + "min(1^)");
        fault(1, d + "max(1,2^,3)");
        fault(1, d + "if(1^,2,3)");
        fault(1, d + "if(1<2,3^)");
        fault(1, d + "if(all,3,4^,");
        fault(1, d + "^all;");
        fault(1, d + "^not");
        fault(1, d + "^x;");
        fault(1, d + "^keeps;");
        fault(1, d + "1^<2;");
        fault(1, d + "1 ^and");
        fault(1, d + "1^and");
        fault(1, d + "worth^5;");
        fault(1, d + "^[");
        fault(1, m + "^;");
        fault(1, m + "1^;");
        fault(1, m + "1<2^<3;");
        fault(1, m + "(1^<2)");
        fault(1, m + "[1<2^)");
        fault(1, m + "all^=1");
        fault(1, m + "all and^;");
        fault(1, m + "all or ^or");
        fault(1, m + "not^;");
        fault(1, m + "not all ^all");
        fault(1, m + "not^5=5;");
        fault(1, m + "1=1 and^5=5;");
        fault(1, m + "1=1^and 5=5;");
        stands(2, d + "if(all,1,2)*min(worth,wants)/max(hung,hangs)%night-has+gone;");
        stands(2, m + "not not [all and not 1<2 or 3>4] or if(1=2,3,4)=(5);");
        stands(3, d + "1;may all;");
    }

    private static void open() {
        String d = HEAD + "draws ";
        String m = HEAD + "may ";
        fault(5, d + "(((((((^(1");
        fault(5, d + "min(max(if([not((^(");
        fault(5, d + "min(1,min(1,min(1,min(1,min(1,min(1,min(1,min^(");
        fault(1, d + "min(1,min(1,min(1,min(1,min(1,min(1,min(1,min^[");
        fault(5, m + "not not not not not not not ^not all;");
        fault(5, m + "not not not not not not not ^[all];");
        fault(5, m + "not not not not not not not ^(1)=1;");
        fault(5, m + "not not not not not not not 1=^(1);");
        fault(5, m + "[[[[[[[^[all");
        fault(1, m + "[[[[[[[all^[");
        stands(2, d + "(((((((1)))))))+(((((((1)))))));");
        stands(2, m + "not not not not not not not all and (((((((1)))))))=1;");
        stands(2, m + "not not not not not not not 1=1 or not not not not not not not all;");
        stands(2, m + "[[[[[[[all]]]]]]] and [[[[[[[all]]]]]]];");
    }

    private static void tooMany() {
        String things = "";
        for (int i = 0; i < 8; i++) {
            things += "thing t" + (char) ('a' + i) + " worth 1 hangs 1;";
        }
        String gangs = "";
        String visitors = "";
        for (int i = 0; i < 6; i++) {
            gangs += "gang g" + (char) ('a' + i) + " at 1;";
            visitors += "visitor v" + (char) ('a' + i) + " sees ta tb tc td te tf tg th;";
        }
        String all = HEAD + things + gangs + visitors;
        stands(21, all);
        fault(6, all + "^thing ta");
        fault(6, all + "^gang worth");
        fault(6, all + "^visitor;");
        fault(3, HEAD + things + "visitor v sees ta tb tc td te tf tg th ^ta;");
        String twelve = "rota g g g g g g g g g g g g";
        stands(6, BASE + twelve + ";");
        stands(6, BASE + twelve + " \n;");
        fault(6, BASE + twelve + " ^g;");
        fault(6, BASE + twelve + " ^x;");
        fault(6, BASE + twelve + "\n^thing;");
        fault(6, BASE + twelve + " ^abcdefghi;");
        fault(1, BASE + twelve + " ^5;");
        fault(1, BASE + twelve + "^5;");
        fault(1, BASE + twelve + "^");
        fault(6, BASE + "rota g;^rota g;");
        fault(6, BASE + "draws 1;^draws 1;");
        fault(6, BASE + "may all;^may all;");
        String eighty = HEAD + "quarrel 7;".repeat(79);
        stands(80, eighty);
        stands(80, eighty + " \n");
        fault(6, eighty + "^quarrel 7;");
        fault(6, eighty + " \n^museum");
        fault(6, eighty + "^abcdefgh");
        fault(1, eighty.substring(0, eighty.length() - 1) + "^");
    }

    // What stood on the tape behind its end is no part of the text.
    private static void cut(int kind, String marked, String behind) {
        int place = marked.indexOf('^');
        String text = marked.substring(0, place) + marked.substring(place + 1);
        RotaMuseum x = new RotaMuseum();
        Kit.feed(x, text + behind);
        x.end(text.length());
        Kit.due("town of " + marked, x.town(), RotaMuseum.NONE);
        Kit.due("fault of " + marked, x.fault(0), kind);
        Kit.due("place of " + marked, x.fault(1), place);
    }

    private static void ends() {
        cut(1, "museum 5 ^keep", "s 5;");
        cut(1, "museum 10^", "0 keeps 5;");
        cut(1, "museum 5 keeps 5^", ";");
        cut(1, "museum^", "5");
        cut(1, BASE + "rota g g g g g g g g g g g g ^", "g;");
        cut(1, BASE + "draws 1^", "+2;");
        RotaMuseum x = new RotaMuseum();
        Kit.feed(x, HEAD + "thing");
        x.end(HEAD.length());
        Kit.due("nothing behind the end", x.town(), 1);
        // What was left open in a text at fault is not open in the next one.
        Kit.due("left open", Kit.town(x, HEAD + "draws (((((((1;"), RotaMuseum.NONE);
        Kit.due("left open", Kit.town(x, HEAD + "draws (((((((1)))))));"), 2);
    }

    public static void main(String[] args) {
        first();
        longOnes();
        names();
        numbers();
        formulas();
        open();
        tooMany();
        ends();
        Kit.finish("FaultTest");
    }
}
