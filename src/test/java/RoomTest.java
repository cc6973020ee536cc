import java.lang.management.ManagementFactory;
import java.lang.reflect.Array;
import java.lang.reflect.Field;
import java.lang.reflect.Modifier;
import java.util.IdentityHashMap;
import java.util.Map;

/** How much room an object takes when it is made, and that its calls take none. */
public final class RoomTest {
    private static final String TOWN = "museum 50 keeps 3;thing a worth 40 hangs 2;thing b worth 7 hangs 0;thing c worth 22 hangs 5;gang g at 40;"
        + "gang h at 70;gang i at 10;gang j at 11;gang k at 12;gang l at 13;rota g h i j k l;wants g a 5;wants h b 9;visitor v sees a;draws worth+wants*2;"
        + "may not [gone>3 and worth>50] and hung+3>hangs;quarrel 30;";
    private static int objects = 0;
    private static int elements = 0;
    private static int sum = 0;

    private static void count(Object o, Map<Object, Boolean> seen) throws IllegalAccessException {
        if (o == null || o instanceof String || seen.put(o, true) != null) {
            return;
        }
        objects++;
        if (o.getClass().isArray()) {
            elements += Array.getLength(o);
            for (int i = 0; i < Array.getLength(o) && !o.getClass().getComponentType().isPrimitive(); i++) {
                count(Array.get(o, i), seen);
            }
            return;
        }
        for (Field f : o.getClass().getDeclaredFields()) {
            if (!Modifier.isStatic(f.getModifiers())) {
                elements++;
                f.setAccessible(true);
                if (!f.getType().isPrimitive()) {
                    count(f.get(o), seen);
                }
            }
        }
    }

    private static long allocated() {
        return ((com.sun.management.ThreadMXBean) ManagementFactory.getThreadMXBean()).getCurrentThreadAllocatedBytes();
    }

    private static void allCalls(RotaMuseum x, int[] text, int[] image, int length) {
        for (int i = 0; i < text.length; i += 5) {
            sum += x.feed(text[i], text[i + 1], text[i + 2], text[i + 3], text[i + 4]);
        }
        x.end(length);
        sum += x.town();
        sum += x.nights(7) + x.chance(9);
        for (int i = -1; i < 12; i++) {
            sum += x.fault(i) + x.has(i) + x.letter(0, 0, i) + x.thing(0, i) + x.gang(0, i) + x.turn(i) + x.later(i, 0) + x.later(3, i);
            sum += x.sees(i) + x.way(i) + x.waits(i, 2) + x.kept(i, 0) + x.octet(i) + x.status(i) + x.when(i);
        }
        sum += x.idle() + x.best(4, 0) + x.best(4, 1) + x.rota(9, -1) + x.rota(9, 1);
        x.steal(0);
        x.back(0);
        x.swap(0, 1);
        x.undo();
        x.seed(5);
        x.feed(0x00010100, 0, 0, 0, 0);
        x.end(4);
        sum += x.looked();
        x.feed(0x00010100, 0, 0, 0, 0);
        x.end(6);
        sum += x.lies();
        sum += x.image();
        x.feed(image[0], image[1], image[2], 0, 0);
        x.end(12);
        x.on();
    }

    public static void main(String[] args) throws IllegalAccessException {
        count(new RotaMuseum(), new IdentityHashMap<>());
        System.out.println("a new object: " + objects + " objects and arrays, " + elements + " fields and elements");
        Kit.due("few objects", objects < 150, true);
        Kit.due("few elements", elements < 9000, true);
        int[] text = new int[(TOWN.length() + 19) / 20 * 5];
        for (int i = 0; i < 4 * text.length; i++) {
            text[i / 4] = text[i / 4] << 8 | (i < TOWN.length() ? TOWN.charAt(i) : ' ');
        }
        int[] bytes = Kit.image(5, 1, 1, 0, 3, 255, 7);
        int[] image = new int[3];
        for (int i = 0; i < bytes.length; i++) {
            image[i / 4] |= bytes[i] << 24 - i % 4 * 8;
        }
        RotaMuseum x = new RotaMuseum();
        allCalls(x, text, image, TOWN.length());
        Kit.due("the image was taken", x.has(3), 5);
        Kit.due("nothing was refused but undo or swap", x.status(1) + x.status(2) + x.status(5), 0);
        allocated();
        long before = allocated();
        allCalls(x, text, image, TOWN.length());
        long taken = allocated() - before;
        System.out.println("all calls once more: " + taken + " bytes, sum " + sum);
        Kit.due("calls take no room", taken < 1000, true);
        Kit.finish("RoomTest");
    }
}
