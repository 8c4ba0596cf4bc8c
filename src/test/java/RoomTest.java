import java.lang.management.ManagementFactory;
import java.lang.reflect.Array;
import java.lang.reflect.Field;
import java.lang.reflect.Modifier;
import java.util.ArrayDeque;
import java.util.Collections;
import java.util.Deque;
import java.util.IdentityHashMap;
import java.util.Set;

/** One room holds all calls of a run: an object is small, and its calls make nothing. */
public final class RoomTest {
    private static final Check CHECK = new Check();
    private static long sum = 0;

    public static void main(String[] args) throws Exception {
        sizeOfOne();
        callsMakeNothing();
        CHECK.end();
    }

    private static void sizeOfOne() throws Exception {
        Set<Object> seen = Collections.newSetFromMap(new IdentityHashMap<>());
        Deque<Object> open = new ArrayDeque<>();
        open.add(new KitesWar());
        long cells = 0;
        while (!open.isEmpty()) {
            Object one = open.poll();
            if (!seen.add(one)) {
                continue;
            }
            if (one.getClass().isArray()) {
                cells += Array.getLength(one);
                for (int i = 0; !one.getClass().getComponentType().isPrimitive() && i < Array.getLength(one); i++) {
                    open.add(Array.get(one, i));
                }
                continue;
            }
            for (Field f : one.getClass().getDeclaredFields()) {
                if (!Modifier.isStatic(f.getModifiers())) {
                    cells++;
                    f.setAccessible(true);
                    if (!f.getType().isPrimitive()) {
                        open.add(f.get(one));
                    }
                }
            }
        }
        System.out.println("one object: " + seen.size() + " objects and arrays, " + cells + " fields and elements");
        CHECK.isTrue("at most 250 objects and arrays", seen.size() <= 250);
        CHECK.isTrue("at most 3000 fields and elements", cells <= 3000);
    }

    private static void callsMakeNothing() {
        com.sun.management.ThreadMXBean bean =
                (com.sun.management.ThreadMXBean) ManagementFactory.getThreadMXBean();
        KitesWar war = Check.warOf("W012345601K0002059K1200458K0253037K1402534");
        allCalls(war);
        long before = bean.getCurrentThreadAllocatedBytes();
        for (int i = 0; i < 100; i++) {
            allCalls(war);
        }
        long made = bean.getCurrentThreadAllocatedBytes() - before;
        // The measure itself may make a little; a call that made even one object would make 1600 bytes here.
        CHECK.isTrue("calls made " + made + " bytes (" + sum + ")", made < 1600);
    }

    private static void allCalls(KitesWar war) {
        sum += war.keep(0) + war.fault() + war.wind(1, 1) + war.rise(0, 1) + war.run(1, 17) + war.launch(0, 33, 3, 3);
        sum += war.takeIn(4) + war.undo() + war.cross(0, 1) + war.where(0, 1, true, true) + war.along(0, 0);
        sum += war.tangle() + war.toTakeIn() + war.after(0, 20) + war.tonight(0) + war.tonightAt(1, 0);
        sum += war.forSure(0) + war.toLaunch(1, 9, 5) + war.see(0, 1, true) + war.fits() + war.height(0, true);
        sum += war.unsee() + war.seed(3) + war.autumn(0, 20) + war.gust() + war.again(0) + war.count(1);
        sum += war.kite(0, 5) + war.wipe() + Check.write(war, "W012345601K0002059K1200458K0253037K1402534") + war.war();
    }
}
