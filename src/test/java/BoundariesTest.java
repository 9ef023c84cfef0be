/** Each sentence of the document that names a boundary case: the calls that lead there, and what it asks. */
public final class BoundariesTest {
    private static final int LOW = Integer.MIN_VALUE;
    private static final int HIGH = Integer.MAX_VALUE;
    private static String sentence = "";
    private static int sentences = 0;
    private static int wrong = 0;

    public static void main(String[] args) {
        terms();
        bestPlan();
        telling();
        running();
        asking();
        noticing();
        undoing();
        keepingBeside();
        counting();
        turningTheDay();
        System.out.println(wrong == 0 ? sentences + " sentences hold" : wrong + " answers are not as due");
        if (wrong != 0) {
            System.exit(1);
        }
    }

    private static void terms() {
        lastOf512Calls();
        vehiclesFrom0ToV();
        eightStops();
        tenPlaces();
        waysAtFirst();
        noWayToItself();
        placeZeroIsTheYard();
        carriedCountsAsV();
        planAtFirst();
        ownRowInItsOrder();
        othersByTheirNumbers();
        noTimeWithoutStops();
        hoursAtFirst();
        outFromZeroOn();
        outBehindTheRow();
    }

    private static void lastOf512Calls() {
        sentence("an object is used for at most 512 calls after it has been made");
        DaySwaps x = new DaySwaps(3);
        for (int i = 0; i < 8; i++) {
            x.stop(i % 3, 1 + i, 10);
        }
        x.out(0, 0);
        for (int call = 10; call <= 505; call++) {
            due("run, call " + call, x.run(), 3);
        }
        for (int call = 506; call <= 511; call++) {
            due("undo, call " + call, x.undo(), true);
        }
        due("call 512", x.undo(), false);
    }

    private static void vehiclesFrom0ToV() {
        sentence("VEHICLES are 0 .. V - 1");
        for (int v = 1; v <= 3; v++) {
            DaySwaps x = new DaySwaps(v);
            for (int vehicle : new int[] {LOW, -1, v, v + 1, HIGH}) {
                due("stop of " + vehicle, x.stop(vehicle, 1, 1), -1);
                due("out of " + vehicle, x.out(vehicle, 0), false);
                due("hours of " + vehicle, x.hours(vehicle, 0), false);
                due("overtime of " + vehicle, x.overtime(vehicle), -1);
            }
            for (int vehicle = 0; vehicle < v; vehicle++) {
                due("stop of " + vehicle, x.stop(vehicle, 1, 1), vehicle);
                due("out of " + vehicle, x.out(vehicle, 0), true);
                due("hours of " + vehicle, x.hours(vehicle, 0), true);
                due("overtime of " + vehicle, x.overtime(vehicle), 121);
            }
        }
    }

    private static void eightStops() {
        sentence("STOPS are numbered from 0 on, 8 at most");
        for (int v = 1; v <= 3; v++) {
            DaySwaps x = new DaySwaps(v);
            for (int i = 0; i < 8; i++) {
                due("stop", x.stop(i % v, 1, 1), i);
            }
            for (int vehicle = 0; vehicle < v; vehicle++) {
                due("the ninth", x.stop(vehicle, 1, 1), -1);
            }
            due("the eighth is there", x.vehicleOf(7), 7 % v);
            due("the ninth is not", x.vehicleOf(8), -1);
        }
    }

    private static void tenPlaces() {
        sentence("each of a place 0 .. 9");
        for (int place : new int[] {LOW, -1, 10, 11, HIGH}) {
            due("place " + place, new DaySwaps(1).stop(0, place, 1), -1);
        }
        for (int place = 0; place <= 9; place++) {
            due("place " + place, new DaySwaps(1).stop(0, place, 1), 0);
        }
    }

    private static void waysAtFirst() {
        sentence("WAYS between places take seconds (60 at first");
        for (int a = 0; a <= 9; a++) {
            for (int b = 0; b <= 9; b++) {
                DaySwaps x = new DaySwaps(1);
                x.stop(0, a, 0);
                x.stop(0, b, 0);
                int legs = (a == 0 ? 0 : 1) + (a == b ? 0 : 1) + (b == 0 ? 0 : 1);
                due(a + " and " + b, x.cost(), 60 * legs);
            }
        }
    }

    private static void noWayToItself() {
        sentence("0 from a place to itself)");
        DaySwaps x = new DaySwaps(1);
        for (int i = 0; i < 8; i++) {
            x.stop(0, 9, 1);
            due("there, " + (i + 1) + " times, and back", x.cost(), 120 + i + 1);
        }
        due("no way to itself is told", x.way(9, 9, 5), false);
        due("still 0", x.cost(), 128);
    }

    private static void placeZeroIsTheYard() {
        sentence("place 0 is the yard");
        DaySwaps x = new DaySwaps(1);
        x.stop(0, 0, 7);
        due("a stop in the yard has no ways", x.cost(), 7);
        x.stop(0, 4, 0);
        x.way(0, 4, 100);
        due("there and back", x.cost(), 207);
        x.stop(0, 0, 1);
        due("it ends there", x.cost(), 208);
    }

    private static void carriedCountsAsV() {
        sentence("or carries it (then it counts as V)");
        for (int v = 1; v <= 3; v++) {
            DaySwaps x = new DaySwaps(v);
            x.stop(v - 1, 1, 1);
            x.block(0, true);
            due("moved", x.run(), 1);
            due("V is " + v, x.vehicleOf(0), v);
        }
        due("of 0 vehicles V is 1", carriedOf(0), 1);
        due("of 4 vehicles V is 1", carriedOf(4), 1);
    }

    private static int carriedOf(int vehicles) {
        DaySwaps x = new DaySwaps(vehicles);
        x.stop(0, 1, 1);
        x.block(0, true);
        x.run();
        return x.vehicleOf(0);
    }

    private static void planAtFirst() {
        sentence("At first it gives each stop the vehicle whose row it is in");
        DaySwaps x = new DaySwaps(3);
        x.out(1, 0);
        x.hours(2, 0);
        for (int i = 0; i < 8; i++) {
            x.stop((i + 1) % 3, 1, 1);
        }
        due("also one that is out or late", plan(x, 8), "12012012");
        due("none is moved", x.moved(0), -1);
    }

    private static void ownRowInItsOrder() {
        sentence("the stops of its own row that it is given, in the row's order");
        DaySwaps x = allInOneRow(8);
        for (int stop : new int[] {2, 5, 7}) {
            x.block(stop, true);
        }
        due("three are carried", x.run(), 3);
        x.next();
        due("the row 2 5 7 0 1 3 4 6", places(x, 8), "34056172");
        x.block(5, true);
        x.block(0, true);
        x.run();
        due("the row 2 7 1 3 4 6", places(x, 8), "_2034_51");
    }

    private static void othersByTheirNumbers() {
        sentence("then those of other rows that it is given, by their numbers");
        DaySwaps x = new DaySwaps(3);
        for (int vehicle : new int[] {2, 1, 2, 1, 0, 2, 1, 0}) {
            x.stop(vehicle, 0, 0);
        }
        x.out(1, 0);
        x.out(2, 0);
        due("six go to vehicle 0", x.run(), 6);
        due("all have it", plan(x, 8), "00000000");
        due("its own two, then 0 1 2 3 5 6", places(x, 8), "23450671");
    }

    private static void noTimeWithoutStops() {
        sentence("and back to the yard; 0 without stops");
        DaySwaps x = new DaySwaps(3);
        for (int vehicle = 0; vehicle < 3; vehicle++) {
            x.hours(vehicle, 0);
            due("vehicle " + vehicle, x.overtime(vehicle), 0);
        }
        due("no cost", x.cost(), 0);
        x.stop(1, 3, 5);
        due("one has a stop", x.cost(), 2 * 125);
        due("the one before", x.overtime(0), 0);
        due("the one", x.overtime(1), 125);
        due("the one behind", x.overtime(2), 0);
        x.block(0, true);
        x.run();
        due("all are carried", x.cost(), 0);
    }

    private static void hoursAtFirst() {
        sentence("what its time is above its HOURS (28800 at first), 0 at least");
        int[][] cases = {{0, 0}, {8799, 0}, {8800, 0}, {8801, 1}, {10000, 1200}};
        for (int[] told : cases) {
            DaySwaps x = new DaySwaps(3);
            for (int vehicle = 0; vehicle < 3; vehicle++) {
                x.stop(vehicle, 0, 10000);
                x.stop(vehicle, 0, told[0]);
            }
            x.stop(2, 0, 10000);
            due("20000 and " + told[0], x.overtime(2), told[1]);
            due("two stops", x.overtime(1), 0);
            due("cost", x.cost(), 40000 + 3 * told[0] + told[1]);
        }
    }

    private static void outFromZeroOn() {
        sentence("OUT from a place of its row on (from 0 on): those that stand before it");
        for (int from = 0; from <= 8; from++) {
            DaySwaps x = allInOneRow(8);
            due("out from " + from, x.out(0, from), true);
            due("behind are moved", x.run(), 8 - from);
            for (int stop = 0; stop < 8; stop++) {
                due("stop " + stop + ", out from " + from, x.vehicleOf(stop), stop < from ? 0 : 1);
            }
        }
    }

    private static void outBehindTheRow() {
        sentence("it can do but those stops of its own row");
        for (int from = 0; from <= 8; from++) {
            DaySwaps x = new DaySwaps(2);
            x.stop(0, 0, 0);
            x.stop(1, 0, 0);
            x.out(0, from);
            x.out(1, 0);
            due("out from " + from, x.run(), from == 0 ? 2 : 1);
            due("another's stop, out from " + from, x.vehicleOf(1), from == 8 ? 0 : 2);
            due("its own, out from " + from, x.vehicleOf(0), from == 0 ? 2 : 0);
        }
    }

    private static void bestPlan() {
        overtimeAboveTheExtra();
        frozenStaysThoughDear();
        fewestFirst();
        leastByOneSecond();
        overtimeCountsAsMuchAsTime();
        firstByVehicles();
        dearestPlanOfAll();
    }

    private static void overtimeAboveTheExtra() {
        sentence("no overtime is above the EXTRA (0 at first)");
        DaySwaps x = new DaySwaps(1);
        x.stop(0, 0, 1000);
        x.hours(0, 1000);
        due("no overtime", x.run(), 0);
        x.hours(0, 999);
        due("1 above 0", x.run(), 1);
        x.extra(1);
        due("1, extra 1", x.run(), 0);
        x.hours(0, 998);
        due("2, extra 1", x.run(), 1);
        DaySwaps y = new DaySwaps(2);
        y.stop(0, 0, 100);
        y.stop(1, 0, 100);
        y.hours(0, 90);
        y.hours(1, 90);
        y.extra(10);
        due("each has the extra, not both together", y.run(), 0);
        y.hours(1, 89);
        due("one is above it", y.run(), 1);
        due("which", y.moved(0), 1);
    }

    private static void frozenStaysThoughDear() {
        sentence("each frozen stop has the vehicle in whose row it is; no blocked stop has a vehicle");
        DaySwaps x = allInOneRow(8);
        for (int stop = 0; stop < 8; stop++) {
            x.freeze(stop, true);
        }
        due("all are frozen", x.run(), 0);
        x.extra(100000);
        x.hours(0, 0);
        due("all are frozen", x.run(), 0);
        DaySwaps y = new DaySwaps(3);
        for (int i = 0; i < 8; i++) {
            y.stop(i % 3, 0, 0);
            y.block(i, true);
        }
        due("all are blocked", y.run(), 8);
        due("none has a vehicle, though it would cost nothing", plan(y, 8), "33333333");
        y.freeze(7, true);
        due("one is frozen too", y.run(), -2);
    }

    private static void fewestFirst() {
        sentence("THE BEST plan holds, moves the fewest stops; of those it costs least");
        DaySwaps x = new DaySwaps(2);
        x.stop(0, 1, 10000);
        x.stop(0, 2, 3000);
        x.stop(0, 3, 3000);
        x.hours(0, 10240);
        due("one dear stop to move, or two", x.run(), 1);
        due("the dear one", plan(x, 3), "200");
        x.freeze(0, true);
        due("two, as the dear one is frozen", x.run(), 2);
        due("the two", plan(x, 3), "022");
    }

    private static void leastByOneSecond() {
        sentence("of those it costs least");
        DaySwaps x = new DaySwaps(1);
        x.stop(0, 1, 100);
        x.stop(0, 1, 100);
        x.hours(0, 220);
        due("like ones", x.run(), 1);
        due("the first plan keeps stop 0", plan(x, 2), "01");
        DaySwaps y = new DaySwaps(1);
        y.stop(0, 1, 100);
        y.stop(0, 1, 99);
        y.hours(0, 220);
        due("one second less", y.run(), 1);
        due("cost is before the first", plan(y, 2), "10");
        DaySwaps z = new DaySwaps(2);
        z.stop(0, 1, 0);
        z.stop(1, 2, 50);
        z.out(0, 0);
        z.way(1, 2, 0);
        due("no second more with vehicle 1", z.run(), 1);
        due("its number is less than V", plan(z, 2), "11");
        z.way(1, 2, 1);
        due("one second more", z.run(), 1);
        due("carried", plan(z, 2), "21");
    }

    /** Giving stop 1 to vehicle 1 leaves times of 160 and 170, carrying stop 0 leaves 120 and 220. */
    private static void overtimeCountsAsMuchAsTime() {
        sentence("of those it costs least: all times and all overtimes together");
        int[] hours = {160, 151, 150, 149, 120};
        String[] plans = {"011", "011", "011", "201", "201"};
        int[] costs = {330, 339, 340, 340, 340};
        for (int i = 0; i < hours.length; i++) {
            DaySwaps x = new DaySwaps(2);
            x.stop(0, 1, 40);
            x.stop(0, 2, 0);
            x.stop(1, 3, 0);
            x.way(0, 3, 110);
            x.way(2, 3, 0);
            x.extra(50);
            x.hours(0, hours[i]);
            due("hours of " + hours[i], x.run(), 1);
            due("the first of the cheapest", plan(x, 3), plans[i]);
            due("its cost", x.cost(), costs[i]);
        }
    }

    private static void firstByVehicles() {
        sentence("of those it is the first: by the vehicles of stops 0, 1, ..");
        DaySwaps x = new DaySwaps(3);
        for (int i = 0; i < 8; i++) {
            x.stop(2, 0, 0);
        }
        x.out(2, 0);
        due("all go", x.run(), 8);
        due("to vehicle 0", plan(x, 8), "00000000");
        x.out(0, 7);
        due("all go", x.run(), 8);
        due("to vehicle 1", plan(x, 8), "11111111");
        x.out(1, 7);
        due("all go", x.run(), 8);
        due("carried", plan(x, 8), "33333333");
        DaySwaps y = allInOneRow(8);
        y.hours(0, 120 + 5);
        due("five of like ones stay", y.run(), 3);
        due("the first five", plan(y, 8), "00000111");
        y.freeze(7, true);
        due("with the last one frozen", y.run(), 3);
        due("the first four and it", plan(y, 8), "00001110");
    }

    private static void dearestPlanOfAll() {
        sentence("The COST of a plan are all times and all overtimes together");
        DaySwaps x = dearest();
        due("the most that can be told", x.cost(), 2 * 190000);
        due("overtime of three stops", x.overtime(0), 70000);
        due("overtime of two", x.overtime(2), 50000);
        x.extra(70000);
        due("holds", x.run(), 0);
        x.extra(69999);
        due("just not", x.run(), 2);
        due("one of each of the two is carried, as nobody can take it", plan(x, 8), "01201233");
        DaySwaps y = new DaySwaps(1);
        for (int i = 0; i < 8; i++) {
            y.stop(0, 1 + i, 10000);
        }
        longestWays(y);
        y.hours(0, 100000);
        due("one vehicle, hours of 100000", y.overtime(0), 70000);
        y.hours(0, 0);
        due("one vehicle, hours of 0", y.overtime(0), 170000);
        due("cost", y.cost(), 340000);
        y.extra(100000);
        due("no extra is enough", y.run(), 4);
        due("the first four", plan(y, 8), "00001111");
    }

    private static void telling() {
        newObject();
        stopSeconds();
        stopIsLast();
        stopWhenThereAre8();
        freezeNoneSuch();
        blockNoneSuch();
        outPlaces();
        wayBounds();
        hoursBounds();
        extraBounds();
    }

    private static void newObject() {
        sentence("1: vehicles of 1 .. 3 (of another number 1)");
        int[][] cases = {{LOW, 1}, {-3, 1}, {-1, 1}, {0, 1}, {1, 1}, {2, 2}, {3, 3}, {4, 1}, {258, 1}, {HIGH, 1}};
        for (int[] told : cases) {
            due("of " + told[0], vehiclesOf(new DaySwaps(told[0])), told[1]);
        }
        sentence("1: No stops, nothing was run");
        DaySwaps x = new DaySwaps(3);
        for (int i = -1; i <= 8; i++) {
            due("vehicleOf", x.vehicleOf(i), -1);
            due("place", x.place(i), -1);
            due("moved", x.moved(i), -1);
            due("carried", x.carried(i), -1);
            due("sent", x.sent(i), -1);
            due("compare", x.compare(i, 0), -1);
            due("freeze", x.freeze(i, true), false);
            due("block", x.block(i, true), false);
        }
        due("send", x.send(), 0);
        due("cost", x.cost(), 0);
        due("undo", x.undo(), false);
        due("next", x.next(), 0);
        due("run", x.run(), 0);
        due("an empty plan is kept", x.undo(), true);
        due("an empty plan beside", x.copy(), 0);
        due("differs by none", x.compare(0, 0), -1);
    }

    private static int vehiclesOf(DaySwaps x) {
        int count = 0;
        while (count < 10 && x.overtime(count) == 0) {
            count++;
        }
        return count;
    }

    private static void stopSeconds() {
        sentence("2: of 0 .. 10000 seconds");
        DaySwaps x = new DaySwaps(1);
        for (int seconds : new int[] {LOW, -10000, -1, 10001, 65536, HIGH}) {
            due(seconds + " seconds", x.stop(0, 0, seconds), -1);
        }
        due("0 seconds", x.stop(0, 0, 0), 0);
        due("0 seconds", x.cost(), 0);
        due("10000 seconds", x.stop(0, 0, 10000), 1);
        due("10000 seconds", x.cost(), 10000);
    }

    private static void stopIsLast() {
        sentence("2: the last one of a vehicle's row; by the plan it has that vehicle");
        DaySwaps x = new DaySwaps(2);
        x.stop(1, 0, 0);
        x.stop(0, 0, 0);
        x.out(1, 0);
        due("stop 0 goes to vehicle 0", x.run(), 1);
        due("behind its own", places(x, 2), "10");
        due("one more of vehicle 0", x.stop(0, 0, 0), 2);
        due("last of the row, before those of others", places(x, 3), "201");
        due("one more of vehicle 1, which is out", x.stop(1, 0, 0), 3);
        due("it has that vehicle all the same", x.vehicleOf(3), 1);
        due("first there, as stop 0 has gone", x.place(3), 0);
        x.undo();
        due("behind stop 0", places(x, 4), "0011");
    }

    private static void stopWhenThereAre8() {
        sentence("2: NONE when there are 8, or these are not such");
        DaySwaps x = allInOneRow(8);
        due("8", x.stop(0, 1, 1), -1);
        x.block(3, true);
        x.run();
        due("8, one carried", x.stop(0, 1, 1), -1);
        x.next();
        due("8 on the next day", x.stop(0, 1, 1), -1);
        DaySwaps y = new DaySwaps(2);
        int[][] notSuch = {{2, 1, 1}, {-1, 1, 1}, {0, 10, 1}, {0, -1, 1}, {0, 1, -1}, {0, 1, 10001}, {2, 10, 10001}};
        for (int[] told : notSuch) {
            due("not such", y.stop(told[0], told[1], told[2]), -1);
        }
        due("no number was used up", y.stop(1, 1, 1), 0);
    }

    private static void freezeNoneSuch() {
        sentence("3: Answers true; false when there is none such");
        for (int stops = 0; stops <= 8; stops++) {
            DaySwaps x = allInOneRow(stops);
            for (int stop : new int[] {LOW, -1, stops, 8, 9, HIGH}) {
                due("freeze of " + stop, x.freeze(stop, true), false);
                due("no freeze of " + stop, x.freeze(stop, false), false);
            }
            for (int stop = 0; stop < stops; stop++) {
                due("no freeze of one that is not", x.freeze(stop, false), true);
                due("freeze of " + stop, x.freeze(stop, true), true);
                due("freeze of one that is", x.freeze(stop, true), true);
            }
            x.out(0, 0);
            due("all are frozen", x.run(), stops == 0 ? 0 : -3);
        }
        DaySwaps x = new DaySwaps(1);
        x.freeze(0, true);
        x.stop(0, 1, 1);
        x.out(0, 0);
        due("not frozen before it was told", x.run(), 1);
    }

    private static void blockNoneSuch() {
        sentence("4: Answers true, or false");
        for (int stops = 0; stops <= 8; stops++) {
            DaySwaps x = allInOneRow(stops);
            for (int stop : new int[] {LOW, -1, stops, 8, 9, HIGH}) {
                due("block of " + stop, x.block(stop, true), false);
                due("no block of " + stop, x.block(stop, false), false);
            }
            for (int stop = 0; stop < stops; stop++) {
                due("no block of one that is not", x.block(stop, false), true);
                due("block of " + stop, x.block(stop, true), true);
                due("block of one that is", x.block(stop, true), true);
            }
            due("all are blocked", x.run(), stops);
        }
        DaySwaps x = new DaySwaps(1);
        x.block(0, true);
        x.stop(0, 1, 1);
        due("not blocked before it was told", x.run(), 0);
    }

    private static void outPlaces() {
        sentence("5: from a place 0 .. 8 of its row on (8: it is not out)");
        DaySwaps x = new DaySwaps(3);
        for (int from = 0; from <= 8; from++) {
            due("from " + from, x.out(2, from), true);
        }
        for (int from : new int[] {LOW, -8, -1, 9, 256, HIGH}) {
            due("from " + from, x.out(2, from), false);
        }
        x.stop(0, 0, 0);
        x.out(0, 0);
        x.out(1, 0);
        due("vehicle 2 is not out", x.run(), 1);
        due("and takes it", x.vehicleOf(0), 2);
        x.out(2, 0);
        due("out before it has stops", x.run(), 1);
        due("nobody takes it", x.vehicleOf(0), 3);
        x.stop(2, 0, 0);
        due("a stop that was told since is behind it too", x.run(), 2);
        x.out(2, 1);
        due("now before it", x.run(), 1);
        x.stop(2, 0, 0);
        due("and one more behind", x.run(), 2);
        due("the plan", plan(x, 3), "323");
    }

    private static void wayBounds() {
        sentence("6: A way between two different places: 0 .. 10000 seconds");
        DaySwaps x = new DaySwaps(1);
        for (int place = 0; place <= 9; place++) {
            due("from " + place + " to itself", x.way(place, place, 5), false);
            due("from " + place + " to 10", x.way(place, 10, 5), false);
            due("from " + place + " to -1", x.way(place, -1, 5), false);
            due("from 10 to " + place, x.way(10, place, 5), false);
            due("from -1 to " + place, x.way(-1, place, 5), false);
        }
        int[][] refused = {{LOW, 1, 5}, {HIGH, 1, 5}, {1, LOW, 5}, {1, HIGH, 5}, {10, 10, 5}, {-1, -1, 5},
                {0, 9, LOW}, {0, 9, -1}, {0, 9, 10001}, {0, 9, HIGH}, {9, 0, -1}, {9, 0, 10001}};
        for (int[] told : refused) {
            due("refused", x.way(told[0], told[1], told[2]), false);
        }
        x.stop(0, 9, 0);
        due("still 60", x.cost(), 120);
        due("0 seconds", x.way(0, 9, 0), true);
        due("0 seconds", x.cost(), 0);
        due("10000 seconds", x.way(9, 0, 10000), true);
        due("10000 seconds", x.cost(), 20000);
        sentence("6: both ways");
        DaySwaps y = new DaySwaps(1);
        y.stop(0, 9, 0);
        y.stop(0, 8, 0);
        y.stop(0, 9, 0);
        due("told from 8 to 9", y.way(8, 9, 1000), true);
        due("there and back", y.cost(), 60 + 1000 + 1000 + 60);
        due("told from 9 to 8", y.way(9, 8, 1), true);
        due("there and back", y.cost(), 60 + 1 + 1 + 60);
    }

    private static void hoursBounds() {
        sentence("7: A vehicle's hours: 0 .. 100000 seconds");
        DaySwaps x = dearest();
        for (int seconds : new int[] {LOW, -100000, -1, 100001, 1000000, HIGH}) {
            due(seconds + " seconds", x.hours(0, seconds), false);
        }
        due("as before", x.overtime(0), 70000);
        due("1 second", x.hours(0, 1), true);
        due("1 second", x.overtime(0), 69999);
        due("0 seconds", x.hours(0, 0), true);
        due("0 seconds", x.overtime(0), 70000);
        due("100000 seconds", x.hours(0, 100000), true);
        due("100000 seconds", x.overtime(0), 0);
        due("just its time", x.hours(1, 70000), true);
        due("just its time", x.overtime(1), 0);
        due("not the third", x.overtime(2), 50000);
    }

    private static void extraBounds() {
        sentence("8: The extra: 0 .. 100000 seconds");
        DaySwaps x = new DaySwaps(1);
        for (int i = 0; i < 8; i++) {
            x.stop(0, 1, 10000);
        }
        x.way(0, 1, 10000);
        x.hours(0, 0);
        for (int seconds : new int[] {LOW, -100000, -1, 100001, 1000000, HIGH}) {
            due(seconds + " seconds", x.extra(seconds), false);
        }
        due("0 at first", x.run(), 8);
        due("100000 seconds", x.extra(100000), true);
        due("100000 seconds of overtime", x.run(), 0);
        due("overtime", x.overtime(0), 100000);
        due("99999 seconds", x.extra(99999), true);
        due("100000 seconds of overtime", x.run(), 1);
        due("0 seconds", x.extra(0), true);
        due("no overtime", x.run(), 8);
    }

    private static void running() {
        runKeepsSix();
        runWithoutStops();
        runRefusedFrozenBlocked();
        runRefusedFrozenOut();
        runRefusedElse();
        runRefusedKeepsNothing();
    }

    private static void runKeepsSix() {
        sentence("9: the one before it is kept for undo(), the six latest of them");
        for (int runs = 0; runs <= 8; runs++) {
            DaySwaps x = allInOneRow(8);
            for (int i = 0; i < runs; i++) {
                x.block(i, true);
                due("run " + i, x.run(), i + 1);
            }
            int kept = Math.min(6, runs);
            for (int i = 1; i <= kept; i++) {
                due("undo " + i + " of " + runs, x.undo(), true);
                due("moved by it", movedCount(x), runs - i);
            }
            due("no more of " + runs, x.undo(), false);
            due("stays", movedCount(x), runs - kept);
        }
    }

    private static void runWithoutStops() {
        sentence("9: Answers how many stops are moved by it");
        DaySwaps x = new DaySwaps(3);
        x.out(0, 0);
        x.hours(1, 0);
        due("no stops", x.run(), 0);
        for (int stop = 0; stop < 8; stop++) {
            x.stop(stop % 3, 1, 1);
        }
        x.out(1, 0);
        x.out(2, 0);
        due("all 8", x.run(), 8);
        due("again all 8", x.run(), 8);
    }

    private static void runRefusedFrozenBlocked() {
        sentence("9: When no plan holds the plan stays: -2 when a frozen stop is blocked");
        for (int stop = 0; stop < 8; stop++) {
            DaySwaps x = allInOneRow(8);
            x.freeze(stop, true);
            due("frozen alone", x.run(), 0);
            x.block(stop, true);
            due("stop " + stop, x.run(), -2);
            x.freeze((stop + 1) % 8, true);
            x.out(0, 0);
            x.hours(0, 0);
            due("all three faults", x.run(), -2);
            due("the plan stays", plan(x, 8), "00000000");
            x.freeze(stop, false);
            due("blocked alone, another is frozen", x.run(), -3);
        }
    }

    private static void runRefusedFrozenOut() {
        sentence("9: else -3 when a frozen one is one that its vehicle can't do");
        for (int stop = 0; stop < 8; stop++) {
            DaySwaps x = allInOneRow(8);
            x.freeze(stop, true);
            x.out(0, stop + 1);
            due("just before it", x.run(), 7 - stop);
            x.out(0, stop);
            due("just from it on", x.run(), -3);
            x.hours(0, 0);
            due("and no hours", x.run(), -3);
            x.block((stop + 1) % 8, true);
            due("and another is blocked", x.run(), -3);
        }
    }

    private static void runRefusedElse() {
        sentence("9: else -4");
        DaySwaps x = new DaySwaps(2);
        x.stop(0, 1, 10);
        x.stop(0, 2, 10);
        x.freeze(0, true);
        x.hours(0, 130);
        due("just enough hours", x.run(), 1);
        x.hours(0, 129);
        due("one second too few", x.run(), -4);
        x.extra(1);
        due("one second of extra", x.run(), 1);
        x.freeze(1, true);
        due("two are frozen", x.run(), -4);
        x.extra(71);
        due("just enough extra", x.run(), 0);
        x.out(1, 0);
        x.extra(70);
        due("the other is out, with nothing frozen", x.run(), -4);
        DaySwaps y = allInOneRow(8);
        for (int stop = 0; stop < 8; stop++) {
            y.freeze(stop, true);
        }
        y.hours(0, 128);
        due("8 stops, just enough hours", y.run(), 0);
        y.hours(0, 127);
        due("8 stops, one second too few", y.run(), -4);
    }

    private static void runRefusedKeepsNothing() {
        sentence("9: When no plan holds the plan stays, and none is kept");
        DaySwaps x = allInOneRow(3);
        x.freeze(0, true);
        x.block(0, true);
        due("refused", x.run(), -2);
        due("none is kept", x.undo(), false);
        x.block(0, false);
        for (int i = 0; i < 6; i++) {
            x.block(1 + i % 2, i < 2);
            x.run();
        }
        x.out(0, 0);
        for (int i = 0; i < 7; i++) {
            due("refused", x.run(), -3);
        }
        for (int i = 0; i < 6; i++) {
            due("six are still kept", x.undo(), true);
        }
        due("no more", x.undo(), false);
        due("the first one", plan(x, 3), "000");
    }

    private static void asking() {
        vehicleOfNoneSuch();
        placeNoneSuch();
        movedNoneSuch();
        carriedNoneSuch();
    }

    private static void vehicleOfNoneSuch() {
        sentence("10: V when it is carried; NONE when there is none such");
        for (int stops = 0; stops <= 8; stops++) {
            DaySwaps x = allInOneRow(stops);
            for (int stop : new int[] {LOW, -1, stops, 8, 9, HIGH}) {
                due("of " + stop, x.vehicleOf(stop), -1);
            }
            if (stops > 0) {
                due("the last one", x.vehicleOf(stops - 1), 0);
                x.block(stops - 1, true);
                x.run();
                due("the last one, carried", x.vehicleOf(stops - 1), 1);
            }
        }
    }

    private static void placeNoneSuch() {
        sentence("11: from 0 on; NONE when there is none such, or it is carried");
        for (int stops = 0; stops <= 8; stops++) {
            DaySwaps x = allInOneRow(stops);
            for (int stop : new int[] {LOW, -1, stops, 8, 9, HIGH}) {
                due("of " + stop, x.place(stop), -1);
            }
            for (int stop = 0; stop < stops; stop++) {
                due("of " + stop, x.place(stop), stop);
            }
            for (int stop = 0; stop < stops; stop++) {
                x.block(stop, true);
            }
            x.run();
            for (int stop = 0; stop < stops; stop++) {
                due("carried", x.place(stop), -1);
            }
        }
    }

    private static void movedNoneSuch() {
        sentence("12: The k-th stop that is moved; NONE when there is none such");
        for (int from = 0; from <= 8; from++) {
            DaySwaps x = allInOneRow(8);
            x.out(0, from);
            x.run();
            for (int k = 0; k < 8 - from; k++) {
                due("moved " + k, x.moved(k), from + k);
            }
            for (int k : new int[] {LOW, -1, 8 - from, 9 - from, 8, 32, HIGH}) {
                due("moved " + k + ", out from " + from, x.moved(k), -1);
            }
        }
    }

    private static void carriedNoneSuch() {
        sentence("13: The k-th stop that is carried; NONE when there is none such");
        for (int many = 0; many <= 8; many++) {
            DaySwaps x = allInOneRow(8);
            for (int i = 0; i < many; i++) {
                x.block(7 - i, true);
            }
            x.run();
            for (int k = 0; k < many; k++) {
                due("carried " + k, x.carried(k), 8 - many + k);
            }
            for (int k : new int[] {LOW, -1, many, many + 1, 8, 32, HIGH}) {
                due("carried " + k + " of " + many, x.carried(k), -1);
            }
        }
        DaySwaps y = new DaySwaps(2);
        y.stop(1, 0, 0);
        y.out(1, 0);
        due("moved to vehicle 0", y.run(), 1);
        due("which is moved", y.moved(0), 0);
        due("but not carried", y.carried(0), -1);
    }

    private static void noticing() {
        sendAtFirst();
        sendAlsoBehindNext();
        sendWithoutAny();
        sentNoneSuch();
    }

    private static void sendAtFirst() {
        sentence("14: at first: than the one in whose row it was told");
        DaySwaps x = new DaySwaps(3);
        for (int i = 0; i < 8; i++) {
            x.stop(i % 3, 1, 1);
        }
        due("by the first plan none", x.send(), 0);
        for (int i = 0; i < 8; i++) {
            x.block(i, true);
        }
        x.run();
        due("all 8", x.send(), 8);
        due("once", x.send(), 0);
        x.undo();
        due("all 8 back", x.send(), 8);
        due("once", x.send(), 0);
        DaySwaps y = new DaySwaps(1);
        y.stop(0, 1, 1);
        y.block(0, true);
        y.run();
        y.undo();
        due("there and back without a word", y.send(), 0);
        due("none", y.sent(0), 0);
    }

    private static void sendAlsoBehindNext() {
        sentence("14: also behind next()");
        DaySwaps x = new DaySwaps(2);
        x.stop(1, 0, 0);
        x.out(1, 0);
        x.run();
        x.next();
        due("in row 0 now, told in row 1", x.send(), 1);
        x.next();
        due("noticed", x.send(), 0);
        x.out(0, 0);
        x.run();
        x.next();
        due("in row 1 again", x.vehicleOf(0), 1);
        due("another one than by the latest notice", x.send(), 1);
        due("two notices", x.sent(0), 2);
        DaySwaps y = new DaySwaps(2);
        y.stop(1, 0, 0);
        y.out(1, 0);
        y.run();
        y.next();
        y.out(0, 0);
        y.run();
        y.next();
        due("back in the row in which it was told", y.vehicleOf(0), 1);
        due("so none", y.send(), 0);
        y.stop(0, 0, 0);
        due("none of one that was told behind next()", y.send(), 0);
    }

    private static void sendWithoutAny() {
        sentence("14: Answers how many these are");
        DaySwaps x = new DaySwaps(1);
        due("no stops", x.send(), 0);
        x.stop(0, 1, 1);
        x.block(0, true);
        due("not run", x.send(), 0);
        x.run();
        due("one", x.send(), 1);
        due("run again", x.run(), 1);
        due("the same plan", x.send(), 0);
        x.freeze(0, true);
        x.run();
        due("a run that found none", x.send(), 0);
    }

    private static void sentNoneSuch() {
        sentence("15: How often notices of a stop were sent; NONE when there is none such");
        for (int stops = 0; stops <= 8; stops++) {
            DaySwaps x = allInOneRow(stops);
            for (int stop : new int[] {LOW, -1, stops, 8, 9, HIGH}) {
                due("of " + stop, x.sent(stop), -1);
            }
            for (int stop = 0; stop < stops; stop++) {
                due("none yet", x.sent(stop), 0);
            }
        }
        DaySwaps x = new DaySwaps(1);
        x.stop(0, 1, 1);
        for (int i = 1; i <= 100; i++) {
            x.block(0, i % 2 == 1);
            x.run();
            x.send();
            due("notices", x.sent(0), i);
        }
    }

    private static void undoing() {
        undoWhenNoneIsKept();
        undoOfStopsToldSince();
        undoOfTheOldestKept();
    }

    private static void undoWhenNoneIsKept() {
        sentence("16: Answers true; false when none is kept");
        DaySwaps x = allInOneRow(2);
        due("nothing was run", x.undo(), false);
        x.block(1, true);
        x.run();
        due("one", x.undo(), true);
        due("it is not kept any more", x.undo(), false);
        due("nor again", x.undo(), false);
        due("the plan stays", plan(x, 2), "00");
        x.run();
        x.next();
        due("nothing is kept over next()", x.undo(), false);
        due("the plan stays", plan(x, 2), "00");
        x.run();
        due("a run that moved none", x.undo(), true);
        due("no more", x.undo(), false);
    }

    private static void undoOfStopsToldSince() {
        sentence("16: stops that were told since then have the vehicles in whose rows they are");
        DaySwaps x = new DaySwaps(3);
        due("a run without stops", x.run(), 0);
        for (int i = 0; i < 8; i++) {
            x.stop(2 - i % 3, 1, 1);
            x.block(i, true);
        }
        due("all are carried", x.run(), 8);
        due("to the plan before", x.undo(), true);
        due("all in their rows", plan(x, 8), "21021021");
        due("to the plan without stops", x.undo(), true);
        due("all were told since then", plan(x, 8), "21021021");
        DaySwaps y = new DaySwaps(2);
        y.stop(0, 0, 0);
        y.out(0, 0);
        y.run();
        due("moved to vehicle 1", plan(y, 1), "1");
        y.stop(0, 0, 0);
        y.run();
        y.block(0, true);
        due("both", y.run(), 2);
        due("plan", plan(y, 2), "21");
        due("undone", y.undo(), true);
        due("plan", plan(y, 2), "11");
        due("undone", y.undo(), true);
        due("the one told since then in its row, the other one moved", plan(y, 2), "10");
        due("undone", y.undo(), true);
        due("both in their rows", plan(y, 2), "00");
    }

    private static void undoOfTheOldestKept() {
        sentence("16: stops that were told since then, also of the oldest of the six that are kept");
        DaySwaps x = new DaySwaps(2);
        for (int i = 0; i < 8; i++) {
            x.stop(1, 1, 1);
            x.block(i, true);
            due("all are carried", x.run(), i + 1);
        }
        String[] plans = {"22222221", "22222211", "22222111", "22221111", "22211111", "22111111"};
        for (String plan : plans) {
            due("kept", x.undo(), true);
            due("those told since then in their row", plan(x, 8), plan);
        }
        due("no more", x.undo(), false);
        due("stays", plan(x, 8), "22111111");
    }

    private static void keepingBeside() {
        copyFour();
        compareNoneSuch();
        compareOfThoseThatThereWere();
    }

    private static void copyFour() {
        sentence("17: Answers its number, from 0 on; NONE when there are 4");
        for (int stops = 0; stops <= 8; stops += 4) {
            DaySwaps x = allInOneRow(stops);
            for (int i = 0; i < 4; i++) {
                due("copy", x.copy(), i);
            }
            due("there are 4", x.copy(), -1);
            due("there are 4", x.copy(), -1);
            x.next();
            for (int i = 0; i < 4; i++) {
                due("on the next day", x.copy(), i);
            }
            due("there are 4", x.copy(), -1);
        }
        DaySwaps y = allInOneRow(1);
        for (int i = 0; i < 4; i++) {
            y.copy();
        }
        y.block(0, true);
        y.run();
        due("a fifth", y.copy(), -1);
        for (int i = 0; i < 4; i++) {
            due("took the place of none", y.compare(i, 0), 0);
        }
    }

    private static void compareNoneSuch() {
        sentence("18: NONE when there is none such");
        for (int copies = 0; copies <= 4; copies++) {
            DaySwaps x = allInOneRow(8);
            for (int i = 0; i < copies; i++) {
                x.copy();
            }
            for (int stop = 0; stop < 8; stop++) {
                x.block(stop, true);
            }
            x.run();
            for (int copy : new int[] {LOW, -1, copies, 4, 5, HIGH}) {
                due("copy " + copy + " of " + copies, x.compare(copy, 0), -1);
            }
            for (int copy = 0; copy < copies; copy++) {
                due("the first", x.compare(copy, 0), 0);
                due("the last", x.compare(copy, 7), 7);
                for (int k : new int[] {LOW, -1, 8, 32, HIGH}) {
                    due("k of " + k, x.compare(copy, k), -1);
                }
            }
            x.undo();
            for (int copy = 0; copy < copies; copy++) {
                due("like the plan now", x.compare(copy, 0), -1);
            }
            x.next();
            due("none on the next day", x.compare(0, 0), -1);
        }
    }

    private static void compareOfThoseThatThereWere() {
        sentence("18: of those that there were when a plan was kept beside");
        DaySwaps x = new DaySwaps(1);
        for (int i = 0; i < 4; i++) {
            due("kept with " + 2 * i + " stops", x.copy(), i);
            x.stop(0, 1, 1);
            x.stop(0, 1, 1);
        }
        for (int stop = 0; stop < 8; stop++) {
            x.block(stop, true);
        }
        due("all are carried", x.run(), 8);
        for (int i = 0; i < 4; i++) {
            for (int k = 0; k < 8; k++) {
                due("copy " + i + ", " + k, x.compare(i, k), k < 2 * i ? k : -1);
            }
        }
    }

    private static void counting() {
        sentence("19: The cost of the plan");
        DaySwaps x = dearest();
        due("the most", x.cost(), 380000);
        for (int stop = 0; stop < 8; stop++) {
            x.block(stop, true);
        }
        x.run();
        due("the least", x.cost(), 0);
        sentence("20: A vehicle's overtime by the plan; NONE when there is none such");
        DaySwaps y = dearest();
        for (int vehicle : new int[] {LOW, -1, 3, 4, HIGH}) {
            due("of " + vehicle, y.overtime(vehicle), -1);
        }
        due("of the last one", y.overtime(2), 50000);
        y.hours(2, 49999);
        due("1 above", y.overtime(2), 1);
        y.hours(2, 50000);
        due("just not above", y.overtime(2), 0);
        y.hours(2, 50001);
        due("below", y.overtime(2), 0);
    }

    private static void turningTheDay() {
        nextWithoutAny();
        nextWithAllCarried();
        nextRoundsBecomeRows();
        nextNothingIsFrozenBlockedOrOut();
        nextNothingIsKept();
        nextLeavesWhatItDoesNotName();
    }

    private static void nextWithoutAny() {
        sentence("21: Answers how many were carried");
        for (int v = 1; v <= 3; v++) {
            DaySwaps x = new DaySwaps(v);
            due("no stops", x.next(), 0);
            due("no stops again", x.next(), 0);
            due("the first stop comes then", x.stop(v - 1, 1, 1), 0);
            due("none carried", x.next(), 0);
            x.block(0, true);
            due("blocked, but not run", x.next(), 0);
            due("not blocked any more", x.run(), 0);
        }
    }

    private static void nextWithAllCarried() {
        sentence("21: carried stops come first in the rows in which they were (by their numbers)");
        DaySwaps x = new DaySwaps(3);
        for (int i = 0; i < 8; i++) {
            x.stop(2 - i % 3, 1, 1);
            x.block(i, true);
        }
        x.run();
        due("all 8 carried", x.next(), 8);
        due("given to those vehicles", plan(x, 8), "21021021");
        due("as they were", places(x, 8), "00011122");
        due("none is moved", x.moved(0), -1);
        due("none is carried", x.next(), 0);
        due("as they were", places(x, 8), "00011122");
        DaySwaps y = allInOneRow(8);
        y.block(7, true);
        y.run();
        due("the last one carried", y.next(), 1);
        due("it is first", places(y, 8), "12345670");
        y.block(0, true);
        y.block(7, true);
        y.run();
        due("two carried", y.next(), 2);
        due("by their numbers, not as they stood", places(y, 8), "02345671");
    }

    private static void nextRoundsBecomeRows() {
        sentence("21: the plan's rounds become the rows of the vehicles");
        DaySwaps x = new DaySwaps(2);
        for (int i = 0; i < 8; i++) {
            x.stop(1 - i % 2, 0, 0);
        }
        x.out(1, 0);
        due("all of row 1 go to row 0", x.run(), 4);
        due("its round", places(x, 8), "40516273");
        due("none carried", x.next(), 0);
        due("its row", places(x, 8), "40516273");
        due("none is moved", x.moved(0), -1);
        x.out(0, 4);
        due("those behind place 4 of the new row", x.run(), 4);
        due("go back", plan(x, 8), "10101010");
        x.undo();
        x.out(0, 7);
        due("the last of the new row", x.run(), 1);
        due("which", x.moved(0), 6);
        x.out(0, 8);
        x.freeze(6, true);
        x.out(1, 0);
        due("frozen where it is now", x.run(), 0);
    }

    private static void nextNothingIsFrozenBlockedOrOut() {
        sentence("21: no stop is frozen or blocked, no vehicle is out");
        DaySwaps x = new DaySwaps(3);
        for (int i = 0; i < 8; i++) {
            x.stop(i % 3, 0, 0);
            x.block(i, i < 4);
            x.freeze(i, i >= 4);
        }
        x.out(0, 7);
        x.out(1, 7);
        x.out(2, 7);
        due("four are carried", x.run(), 4);
        due("four were carried", x.next(), 4);
        due("nothing is blocked", x.run(), 0);
        x.out(0, 0);
        x.out(1, 0);
        due("nothing is frozen", x.run(), 6);
        due("vehicle 2 is not out", plan(x, 8), "22222222");
        x.next();
        x.out(2, 0);
        due("nor the others", x.run(), 8);
        due("the first takes all", plan(x, 8), "00000000");
        x.next();
        x.out(0, 0);
        x.out(2, 7);
        due("nor the second one", x.run(), 8);
        due("it takes all", plan(x, 8), "11111111");
    }

    private static void nextNothingIsKept() {
        sentence("21: nothing is kept for undo() or beside");
        DaySwaps x = allInOneRow(2);
        x.block(0, true);
        for (int i = 0; i < 7; i++) {
            x.run();
            x.copy();
        }
        x.next();
        due("undo", x.undo(), false);
        for (int copy = 0; copy < 4; copy++) {
            due("compare", x.compare(copy, 0), -1);
        }
        x.block(1, true);
        due("run", x.run(), 1);
        due("copy", x.copy(), 0);
        due("the one before it alone", x.undo(), true);
        due("undone", plan(x, 2), "00");
        due("no more", x.undo(), false);
        due("differs from the copy of this day", x.compare(0, 0), 1);
        due("by no more", x.compare(0, 1), -1);
    }

    private static void nextLeavesWhatItDoesNotName() {
        sentence("Nothing is promised beyond the state changes described above: 21 names no ways, hours or extra");
        DaySwaps x = new DaySwaps(3);
        for (int vehicle = 0; vehicle < 3; vehicle++) {
            x.stop(vehicle, 1 + vehicle, 100);
            x.way(0, 1 + vehicle, 10 * vehicle);
            x.hours(vehicle, 90 + 10 * vehicle);
        }
        x.extra(20);
        for (int day = 0; day < 3; day++) {
            due("ways and hours", x.cost(), 100 + 10 + 120 + 20 + 140 + 30);
            for (int vehicle = 0; vehicle < 3; vehicle++) {
                due("hours of " + vehicle, x.overtime(vehicle), 10 + 10 * vehicle);
            }
            due("the extra", x.run(), 1);
            due("one is above it", plan(x, 3), "013");
            due("carried", x.next(), 1);
        }
        due("stops stay too", x.stop(0, 1, 1), 3);
    }

    /** One vehicle, stops of place 1 with a second each. */
    private static DaySwaps allInOneRow(int stops) {
        DaySwaps x = new DaySwaps(1);
        for (int i = 0; i < stops; i++) {
            x.stop(0, 1, 1);
        }
        return x;
    }

    /** All services and ways are the longest, no vehicle has hours. */
    private static DaySwaps dearest() {
        DaySwaps x = new DaySwaps(3);
        for (int i = 0; i < 8; i++) {
            x.stop(i % 3, 1 + i, 10000);
        }
        longestWays(x);
        for (int vehicle = 0; vehicle < 3; vehicle++) {
            x.hours(vehicle, 0);
        }
        return x;
    }

    private static void longestWays(DaySwaps x) {
        for (int a = 0; a <= 9; a++) {
            for (int b = 0; b < a; b++) {
                x.way(a, b, 10000);
            }
        }
    }

    private static int movedCount(DaySwaps x) {
        int count = 0;
        while (count < 8 && x.moved(count) != -1) {
            count++;
        }
        return count;
    }

    /** The vehicles of the first stops, a figure each. */
    private static String plan(DaySwaps x, int stops) {
        StringBuilder all = new StringBuilder();
        for (int stop = 0; stop < stops; stop++) {
            all.append(x.vehicleOf(stop));
        }
        return all.toString();
    }

    /** The places of the first stops in their rounds, a figure each, '_' for none. */
    private static String places(DaySwaps x, int stops) {
        StringBuilder all = new StringBuilder();
        for (int stop = 0; stop < stops; stop++) {
            int place = x.place(stop);
            all.append(place == DaySwaps.NONE ? "_" : String.valueOf(place));
        }
        return all.toString();
    }

    private static void sentence(String words) {
        sentence = words;
        sentences++;
    }

    private static void due(String what, String got, String want) {
        if (!got.equals(want)) {
            wrong++;
            System.out.println("\"" + sentence + "\": " + what + ": " + got + ", due is " + want);
        }
    }

    private static void due(String what, boolean got, boolean want) {
        due(what, String.valueOf(got), String.valueOf(want));
    }

    private static void due(String what, long got, long want) {
        due(what, String.valueOf(got), String.valueOf(want));
    }
}
