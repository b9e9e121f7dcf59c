import java.lang.management.ManagementFactory;
import java.lang.reflect.Method;
import java.lang.reflect.Modifier;
import java.util.Arrays;
import java.util.Random;

/** What an object and 512 of its dearest calls take of the room; and that no call ever throws, whatever it is given. */
public final class RoomTest extends Told {
    private static final com.sun.management.ThreadMXBean ROOM = (com.sun.management.ThreadMXBean) ManagementFactory.getThreadMXBean();
    private static int wrong = 0;

    public static void main(String[] args) throws Exception {
        takesLittleRoom();
        neverThrows();
        System.out.println(wrong == 0 ? "the room is enough, nothing throws" : wrong + " things are not as due");
        if (wrong != 0) {
            System.exit(1);
        }
    }

    private static String fullTower(String laws) {
        StringBuilder s = new StringBuilder();
        for (int f = 0; f < 8; f++) {
            s.append("flat ").append(f % 4 * 3).append(' ').append(f / 4).append(" size ").append(f + 1).append(';');
        }
        for (int h = 0; h < 7; h++) {
            s.append("household ").append(h + 1).append(" noise ").append(90 - h).append(" ears ").append(50 + h).append(';');
        }
        for (int h = 0; h < 7; h++) {
            s.append("lives ").append(h).append(' ').append(h).append(';');
        }
        return s + laws;
    }

    private static void within(String what, long bytes, long most) {
        if (bytes > most) {
            wrong++;
            System.out.println(what + " takes " + bytes + " bytes, not " + most + " at most");
        }
    }

    private static void takesLittleRoom() {
        String text = fullTower("may : was = 0 and (size - people) * (size - people) < 5;worth : size * people - faults;");
        FloorsByLot warm = new FloorsByLot();
        read(warm, text);
        dear(warm, 3);
        ROOM.getCurrentThreadAllocatedBytes();
        long start = ROOM.getCurrentThreadAllocatedBytes();
        FloorsByLot x = new FloorsByLot();
        long made = ROOM.getCurrentThreadAllocatedBytes();
        within("a new object", made - start, 40_000);
        read(x, text);
        long then = ROOM.getCurrentThreadAllocatedBytes();
        dear(x, 30);
        within("a row of dear calls", ROOM.getCurrentThreadAllocatedBytes() - then, 120_000);
    }

    private static void dear(FloorsByLot x, int times) {
        x.numbers(0, 3, 40);
        for (int i = 0; i < 40; i++) {
            x.write(0, i, i % 2 == 0 ? 3000 : 4000 + 77 * i);
        }
        x.numbers(1, 0, 8);
        for (int i = 0; i < 8; i++) {
            x.write(1, i, -1);
        }
        for (int n = 0; n < times; n++) {
            x.image(n % 2);
            x.nearest();
            x.moving(n, 1);
            x.stillest(11);
            x.fairest(11);
            x.best(11);
            x.bestMending();
            x.perform(0);
            x.year(n, 30);
            x.judge(0, 2);
            x.undo(1);
            x.wall(1);
            x.near(0, 1);
            x.tooMany();
            x.restore(n % 2);
        }
    }

    private static void neverThrows() throws Exception {
        int[] edges = {Integer.MIN_VALUE, -2, -1, 0, 1, 2, 3, 4, 6, 7, 8, 9, 10, 16, 17, 30, 31, 39, 40, 41, 99, 900, Integer.MAX_VALUE};
        String[] texts = {
            "", fullTower(""), fullTower("may : times < 2 or was = 1;worth : floor * people - age;quarter 999;"), "flat 9 3 size 1;",
            "household 1;household 2;", "flat 0 0 size 1;household 1;household 1;household 1;lives 1 0;may : 1 = 2;", "flat 0 0 size"
        };
        Method[] all = Arrays.stream(FloorsByLot.class.getDeclaredMethods()).filter(m -> Modifier.isPublic(m.getModifiers())).toArray(Method[]::new);
        Arrays.sort(all, (a, b) -> a.getName().compareTo(b.getName()));
        for (int run = 0; run < 210 && wrong < 5; run++) {
            Random lot = new Random(run);
            FloorsByLot x = new FloorsByLot();
            read(x, texts[run % texts.length]);
            for (int n = 0; n < 512; n++) {
                Method m = all[lot.nextInt(all.length)];
                Object[] given = new Object[m.getParameterCount()];
                for (int i = 0; i < given.length; i++) {
                    int v = lot.nextInt(9) == 0 ? lot.nextInt() : edges[lot.nextInt(edges.length)];
                    given[i] = m.getParameterTypes()[i] == long.class ? (Object) (lot.nextInt(4) == 0 ? lot.nextLong() : (long) v) : (Object) v;
                }
                try {
                    m.invoke(x, given);
                } catch (java.lang.reflect.InvocationTargetException e) {
                    wrong++;
                    System.out.println("run " + run + ": " + m.getName() + Arrays.toString(given) + " threw " + e.getCause());
                }
            }
        }
    }
}
