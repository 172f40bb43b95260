import java.lang.management.ManagementFactory;

/** All calls live in one room: an object makes its rows when it is made, and its calls make nothing. */
public final class RoomTest {
    private static final Check C = new Check();
    private static final int ROUNDS = 200;
    // What measuring itself and class loading may make; one int[1] a call would pass it many times over.
    private static final long SLACK = 20_000;

    public static void main(String[] args) {
        com.sun.management.ThreadMXBean room = (com.sun.management.ThreadMXBean) ManagementFactory.getThreadMXBean();
        long self = Thread.currentThread().getId();
        live(new ShodForTheRoad());
        // One object for each round: no object is asked more than the 512 calls for which it is promised.
        ShodForTheRoad[] all = new ShodForTheRoad[ROUNDS];
        for (int i = 0; i < ROUNDS; i++) {
            all[i] = new ShodForTheRoad();
        }
        long before = room.getThreadAllocatedBytes(self);
        for (int i = 0; i < ROUNDS; i++) {
            live(all[i]);
        }
        long made = room.getThreadAllocatedBytes(self) - before;
        C.holds(made + " bytes made by calls", made <= SLACK);
        before = room.getThreadAllocatedBytes(self);
        for (int i = 0; i < ROUNDS; i++) {
            new ShodForTheRoad();
        }
        made = room.getThreadAllocatedBytes(self) - before;
        C.holds(made + " bytes made by objects", made / ROUNDS < 8_000);
        C.end();
    }

    private static long live(ShodForTheRoad x) {
        Tell.to(x, "r01;r12;r23;r34;r45;r56;hr0503;hp4261;hm9777;hx1234;");
        Tell.to(x, "d01;s0;w05;a03;");
        Tell.to(x, "r00;");
        long sum = x.rider(0, 7) + x.steps(0, 5) + x.pulls(0, 1) + x.roads(0, 7) + x.shod(1) + x.wants(1, 2)
            + x.stands(1, 1) + x.turn(1, 4, 4) + x.days(1) + x.riderThen(0, 60, 0) + x.comes(0, 7) + x.first(7)
            + x.rests(0) + x.meet(0, 1, 0) + x.arrived() + x.shoe(0, 7, 1) + x.wish(0, 7) + x.road(0, 7) + x.cut(0, 0);
        sum += x.inn(30, 0) + x.busiest() + x.near(0) + x.apart(0) + x.apart(3) + x.tired() + x.truly(0) + x.total(60)
            + x.bare(30) + x.two(0, 1, 30) + x.mud(0, 4, 7, 20, 0) + x.mean(0) + x.row(3) + x.whatWanted(0, 0)
            + x.whatWanted(0, 1) + x.judge() + x.clear() + x.lots(20, 7, 0) + x.image() + x.on() + x.count(3)
            + x.rider(99, 0) + x.mean(3);
        return sum;
    }
}
