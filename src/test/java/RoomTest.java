import com.sun.management.ThreadMXBean;
import java.lang.management.ManagementFactory;
import java.lang.reflect.Array;
import java.lang.reflect.Field;
import java.lang.reflect.Modifier;
import java.util.ArrayList;
import java.util.Collections;
import java.util.IdentityHashMap;
import java.util.List;
import java.util.Set;

/** All calls of a run live in one room: what an object holds is counted, and that calls make nothing more. */
public final class RoomTest {
    private static final String LONGEST = "5/33/5/33/5/33/5/33/5";
    private static final int MOST_OBJECTS = 100;
    private static final int MOST_NUMBERS = 700;
    private static final int GOES = 200;
    // The machine may note something of its own; one object of 16 bytes by each go would be far above that.
    private static final long MOST_BYTES = 1600;

    private static int wrong;

    public static void main(String[] args) throws Exception {
        GlueHouse house = full();
        holdsLittle(house);
        callsMakeNothing(house);
        System.out.println(wrong == 0 ? "the room is as told" : wrong + " things are not as told");
        if (wrong != 0) {
            System.exit(1);
        }
    }

    private static void tell(boolean fine, String what) {
        if (!fine) {
            wrong++;
            System.out.println(what);
        }
    }

    private static GlueHouse full() {
        GlueHouse house = new GlueHouse();
        for (int lap = 0; lap < 6; lap++) {
            sayLongest(house);
            house.read(lap);
        }
        for (int i = 0; i < 21; i++) {
            house.strip(i * 500);
            house.choice(i % 4, i, 10000 - i, i);
        }
        return house;
    }

    private static void sayLongest(GlueHouse house) {
        for (int i = 0; i < LONGEST.length(); i++) {
            house.say(LONGEST.charAt(i));
        }
    }

    private static void holdsLittle(GlueHouse house) throws Exception {
        Set<Object> seen = Collections.newSetFromMap(new IdentityHashMap<>());
        List<Object> open = new ArrayList<>();
        open.add(house);
        long numbers = 0;
        while (!open.isEmpty()) {
            Object one = open.remove(open.size() - 1);
            if (one != null && seen.add(one)) {
                numbers += one.getClass().isArray() ? lookIntoArray(one, open) : lookIntoObject(one, open);
            }
        }
        tell(seen.size() <= MOST_OBJECTS, "an object with all LAPS is made of " + seen.size() + " objects and arrays");
        tell(numbers <= MOST_NUMBERS, "an object with all LAPS has " + numbers + " fields and elements");
    }

    private static int lookIntoArray(Object array, List<Object> open) {
        int length = Array.getLength(array);
        for (int i = 0; i < length && !array.getClass().getComponentType().isPrimitive(); i++) {
            open.add(Array.get(array, i));
        }
        return length;
    }

    private static int lookIntoObject(Object object, List<Object> open) throws Exception {
        int fields = 0;
        for (Field field : object.getClass().getDeclaredFields()) {
            if (!Modifier.isStatic(field.getModifiers())) {
                fields++;
                if (!field.getType().isPrimitive()) {
                    field.setAccessible(true);
                    open.add(field.get(object));
                }
            }
        }
        return fields;
    }

    private static void callsMakeNothing(GlueHouse house) {
        ThreadMXBean machine = (ThreadMXBean) ManagementFactory.getThreadMXBean();
        long id = Thread.currentThread().getId();
        callAll(house, 0);
        machine.getThreadAllocatedBytes(id);
        long before = machine.getThreadAllocatedBytes(id);
        for (int go = 0; go < GOES; go++) {
            callAll(house, go);
        }
        long bytes = machine.getThreadAllocatedBytes(id) - before;
        tell(bytes <= MOST_BYTES, GOES + " goes through all calls took " + bytes + " bytes");
    }

    private static void callAll(GlueHouse house, int go) {
        house.wipe();
        sayLongest(house);
        house.fault();
        house.read(go % 6);
        callLap(house, go % 6);
        callJoints(house, go);
        callTheRest(house, go);
    }

    private static void callLap(GlueHouse house, int lap) {
        house.spot(lap, 0, 0);
        house.glue(lap, 0, 4);
        house.work(lap, 0, 100);
        house.pull(lap, 1, 0, 0);
        house.give(lap, 1);
        house.hardest(lap);
        house.back(lap, 0, 9, 0);
        house.spreads(lap, 9);
        house.first(lap);
        house.damp(lap, 0, 100);
        house.hours(lap, 20);
        house.of(lap, 0);
        house.led(lap, 1000, 90, 700, 500, 1);
        house.rounds(lap, 1, 20);
        house.snap(lap, 100);
    }

    private static void callJoints(GlueHouse house, int go) {
        for (int joint = 0; joint < 7; joint++) {
            house.joint(joint, 1 + (go + joint * joint) % 100, joint < 5 ? 0 : 1);
        }
        house.set(4, 1 + go % 3);
        house.best(-1);
        house.begun(5);
    }

    private static void callTheRest(GlueHouse house, int go) {
        house.rate(0, go % 100);
        house.strip(go);
        house.bar(go % 20, go % 2 == 0);
        house.strips(0, 0);
        house.strips(1, 1);
        house.weak();
        house.odd(7, 0);
        house.knock(go % 10, go % 3);
        house.sheet(go % 10, go % 4);
        house.table(go % 4, go % 3, go % 3);
        house.fit(0);
        house.fits();
        house.sure(5);
        house.unseen(0);
        house.choice(0, 1, 2, 3);
        house.cheapest(100, -1);
        house.told(0);
    }
}
