/** Each promise of the document: ordinary inputs, the edges it names, wrong inputs. */
public final class PromisesTest {
    private static final int LOW = Integer.MIN_VALUE;
    private static final int HIGH = Integer.MAX_VALUE;
    private static int promise;
    private static int wrong = 0;

    public static void main(String[] args) {
        newObject();
        stop();
        freeze();
        block();
        out();
        way();
        hours();
        extra();
        run();
        runTakesTheFirst();
        runCountsOvertime();
        runRefusals();
        runRefusalsOfFrozenOnesAlone();
        vehicleOf();
        place();
        moved();
        carried();
        send();
        sendBehindNext();
        sent();
        undo();
        undoKeepsSix();
        undoOfSixthKnowsItsStops();
        copy();
        compare();
        cost();
        overtime();
        next();
        nextClears();
        nextByRows();
        System.out.println(wrong == 0 ? "all promises are kept" : wrong + " answers are not as due");
        if (wrong != 0) {
            System.exit(1);
        }
    }

    private static void newObject() {
        promise = 1;
        for (int told : new int[] {1, 2, 3}) {
            due("last vehicle of " + told, new DaySwaps(told).overtime(told - 1), 0);
            due("beyond " + told, new DaySwaps(told).overtime(told), -1);
        }
        for (int told : new int[] {0, -1, 4, LOW, HIGH}) {
            due("vehicle 0 of " + told, new DaySwaps(told).overtime(0), 0);
            due("vehicle 1 of " + told, new DaySwaps(told).overtime(1), -1);
        }
        DaySwaps x = new DaySwaps(3);
        due("no stops", x.vehicleOf(0), -1);
        due("nothing was run", x.undo(), false);
        due("nothing costs", x.cost(), 0);
        due("nothing moved", x.moved(0), -1);
        due("nothing beside", x.compare(0, 0), -1);
        due("runs without stops", x.run(), 0);
    }

    private static void stop() {
        promise = 2;
        DaySwaps x = new DaySwaps(2);
        int[][] refused = {{-1, 0, 0}, {2, 0, 0}, {LOW, 0, 0}, {HIGH, 0, 0}, {0, -1, 0}, {0, 10, 0},
                {0, LOW, 0}, {0, HIGH, 0}, {0, 0, -1}, {0, 0, 10001}, {0, 0, LOW}, {0, 0, HIGH}};
        for (int[] told : refused) {
            due("refused", x.stop(told[0], told[1], told[2]), -1);
        }
        due("refused changes nothing", x.vehicleOf(0), -1);
        due("first", x.stop(1, 9, 10000), 0);
        due("second", x.stop(0, 0, 0), 1);
        due("third", x.stop(1, 1, 1), 2);
        due("vehicle of first", x.vehicleOf(0), 1);
        due("vehicle of second", x.vehicleOf(1), 0);
        due("last of its row", x.place(2), 1);
        for (int i = 3; i < 8; i++) {
            due("one more", x.stop(0, 1, 1), i);
        }
        due("ninth", x.stop(0, 1, 1), -1);
        due("ninth is not there", x.vehicleOf(8), -1);
    }

    private static void freeze() {
        promise = 3;
        DaySwaps x = twoVehicles();
        wrongStops(x, true);
        x.out(0, 1);
        due("frozen", x.freeze(0, true), true);
        due("again", x.freeze(0, true), true);
        due("runs", x.run(), 1);
        due("frozen stays", x.vehicleOf(0), 0);
        x.out(0, 0);
        due("frozen can't be done", x.run(), -3);
        due("no more", x.freeze(0, false), true);
        due("runs again", x.run(), 2);
        DaySwaps y = new DaySwaps(2);
        y.stop(0, 1, 100);
        y.stop(0, 2, 10);
        y.freeze(1, true);
        y.hours(0, 225);
        due("the other one goes", y.run(), 1);
        due("which", y.moved(0), 0);
        y.freeze(1, false);
        y.freeze(0, true);
        due("the other one goes", y.run(), 1);
        due("which", y.moved(0), 1);
    }

    private static void block() {
        promise = 4;
        DaySwaps x = twoVehicles();
        wrongStops(x, false);
        due("blocked", x.block(1, true), true);
        due("again", x.block(1, true), true);
        due("runs", x.run(), 1);
        due("carried", x.vehicleOf(1), 2);
        due("others stay", x.vehicleOf(0), 0);
        due("no more", x.block(1, false), true);
        due("runs", x.run(), 0);
        due("back", x.vehicleOf(1), 0);
    }

    private static void wrongStops(DaySwaps x, boolean freezes) {
        for (int stop : new int[] {-1, 3, 8, LOW, HIGH}) {
            due("no such stop", freezes ? x.freeze(stop, true) : x.block(stop, true), false);
            due("no such stop", freezes ? x.freeze(stop, false) : x.block(stop, false), false);
        }
    }

    private static void out() {
        promise = 5;
        DaySwaps x = twoVehicles();
        int[][] refused = {{-1, 0}, {2, 0}, {LOW, 0}, {HIGH, 0}, {0, -1}, {0, 9}, {0, LOW}, {0, HIGH}};
        for (int[] told : refused) {
            due("refused", x.out(told[0], told[1]), false);
        }
        due("refused changes nothing", x.run(), 0);
        due("out from 1 on", x.out(0, 1), true);
        due("runs", x.run(), 1);
        due("before stays", x.vehicleOf(0), 0);
        due("behind goes", x.vehicleOf(1), 2);
        due("out from 0 on", x.out(0, 0), true);
        due("runs", x.run(), 2);
        due("not out", x.out(0, 8), true);
        due("runs", x.run(), 0);
        outTakesNoOthers();
    }

    private static void outTakesNoOthers() {
        DaySwaps x = cheaperWhenMoved();
        due("moved to the other", x.run(), 1);
        due("by the other", x.vehicleOf(1), 1);
        x.out(1, 7);
        due("out behind its row's end", x.run(), 1);
        due("takes no others", x.vehicleOf(1), 2);
        due("keeps its own", x.vehicleOf(2), 1);
        x.out(1, 8);
        due("not out", x.run(), 1);
        due("takes others", x.vehicleOf(1), 1);
    }

    /** Vehicle 1 saves time on stop 2 when it also does stop 1, which vehicle 0 must give away. */
    private static DaySwaps cheaperWhenMoved() {
        DaySwaps x = new DaySwaps(2);
        x.stop(0, 1, 0);
        x.stop(0, 2, 0);
        x.stop(1, 3, 0);
        x.way(0, 3, 1000);
        x.way(2, 3, 1);
        x.way(1, 2, 5000);
        x.hours(0, 4000);
        return x;
    }

    private static void way() {
        promise = 6;
        DaySwaps x = new DaySwaps(1);
        x.stop(0, 1, 0);
        x.stop(0, 2, 0);
        due("60 at first", x.cost(), 180);
        int[][] refused = {{1, 1, 5}, {0, 0, 5}, {-1, 1, 5}, {1, -1, 5}, {10, 1, 5}, {1, 10, 5}, {LOW, 1, 5},
                {1, HIGH, 5}, {1, 2, -1}, {1, 2, 10001}, {1, 2, LOW}, {1, 2, HIGH}};
        for (int[] told : refused) {
            due("refused", x.way(told[0], told[1], told[2]), false);
        }
        due("refused changes nothing", x.cost(), 180);
        due("told", x.way(1, 2, 10000), true);
        due("there", x.cost(), 10120);
        due("told the other way", x.way(2, 1, 7), true);
        due("both ways", x.cost(), 127);
        due("nothing", x.way(0, 1, 0), true);
        due("0 seconds", x.cost(), 67);
        due("back", x.way(0, 2, 100), true);
        due("back to the yard", x.cost(), 107);
    }

    private static void hours() {
        promise = 7;
        DaySwaps x = twoVehicles();
        int[][] refused = {{-1, 5}, {2, 5}, {LOW, 5}, {HIGH, 5}, {0, -1}, {0, 100001}, {0, LOW}, {0, HIGH}};
        for (int[] told : refused) {
            due("refused", x.hours(told[0], told[1]), false);
        }
        due("refused changes nothing", x.overtime(0), 0);
        due("least", x.hours(0, 0), true);
        due("all is overtime", x.overtime(0), 480);
        due("not the other", x.overtime(1), 0);
        due("most", x.hours(0, 100000), true);
        due("none", x.overtime(0), 0);
        DaySwaps y = new DaySwaps(1);
        y.stop(0, 0, 10000);
        y.stop(0, 0, 10000);
        y.stop(0, 0, 8800);
        due("28800 at first", y.overtime(0), 0);
        y.stop(0, 0, 1);
        due("28800 at first", y.overtime(0), 1);
    }

    private static void extra() {
        promise = 8;
        DaySwaps x = new DaySwaps(1);
        x.stop(0, 0, 500);
        x.hours(0, 400);
        for (int seconds : new int[] {-1, 100001, LOW, HIGH}) {
            due("refused", x.extra(seconds), false);
        }
        due("0 at first", x.run(), 1);
        due("too little", x.extra(99), true);
        due("too little", x.run(), 1);
        due("enough", x.extra(100), true);
        due("enough", x.run(), 0);
        due("most", x.extra(100000), true);
        due("most", x.run(), 0);
        due("least", x.extra(0), true);
        due("least", x.run(), 1);
    }

    private static void run() {
        promise = 9;
        DaySwaps x = twoVehicles();
        due("nothing to do", x.run(), 0);
        x.stop(1, 4, 10);
        x.hours(0, 400);
        due("one is moved", x.run(), 1);
        due("cheapest", x.cost(), 220 + 490);
        due("the one that costs most", x.moved(0), 1);
        DaySwaps y = cheaperWhenMoved();
        due("moves, as the way there is shorter", y.run(), 1);
        due("cost", y.cost(), 120 + 1061);
        due("to the other vehicle", y.vehicleOf(1), 1);
        y.way(0, 2, 10000);
        due("moves, though it could carry", y.run(), 1);
        due("carried now", y.vehicleOf(1), 2);
        fewestBeforeCheapest();
        movesToMend();
    }

    private static void fewestBeforeCheapest() {
        DaySwaps x = new DaySwaps(3);
        x.stop(0, 1, 0);
        x.stop(0, 2, 0);
        x.stop(1, 3, 9000);
        due("carrying costs less, but none need be moved", x.run(), 0);
        x.hours(0, 150);
        x.extra(1000);
        due("overtime that is allowed moves none", x.run(), 0);
        due("overtime counts", x.cost(), 180 + 30 + 9120);
    }

    /** The time of vehicle 1 falls when a stop comes between, so that it needs no overtime. */
    private static void movesToMend() {
        DaySwaps x = new DaySwaps(2);
        x.stop(0, 2, 0);
        x.stop(1, 1, 0);
        x.way(0, 1, 500);
        x.way(1, 2, 10);
        x.hours(1, 700);
        x.freeze(1, true);
        due("mended by a stop more", x.run(), 1);
        due("which", x.moved(0), 0);
        due("by vehicle 1", x.vehicleOf(0), 1);
        due("cost", x.cost(), 570);
    }

    private static void runTakesTheFirst() {
        DaySwaps x = new DaySwaps(3);
        x.stop(0, 1, 10);
        x.stop(0, 1, 10);
        x.stop(0, 1, 10);
        x.hours(0, 140);
        due("two of three like ones stay", x.run(), 1);
        due("first plan", plan(x, 3), "003");
        x.hours(0, 130);
        due("one of three stays", x.run(), 2);
        due("first plan", plan(x, 3), "033");
        DaySwaps y = new DaySwaps(3);
        y.stop(2, 0, 0);
        y.stop(1, 0, 0);
        y.out(2, 0);
        y.out(1, 0);
        due("a stop that costs nothing anywhere", y.run(), 2);
        due("first vehicle, not carried", plan(y, 2), "00");
        y.out(0, 0);
        due("all are out", y.run(), 2);
        due("carried", plan(y, 2), "33");
    }

    /** Giving stop 1 to vehicle 1 saves more time, carrying stop 0 saves more overtime. */
    private static void runCountsOvertime() {
        DaySwaps x = new DaySwaps(2);
        x.stop(0, 1, 40);
        x.stop(0, 2, 0);
        x.stop(1, 3, 0);
        x.way(0, 3, 110);
        x.way(2, 3, 0);
        x.extra(50);
        x.hours(0, 160);
        due("no overtime either way", x.run(), 1);
        due("least time", plan(x, 3), "011");
        due("cost", x.cost(), 160 + 170);
        x.hours(0, 120);
        due("overtime one way", x.run(), 1);
        due("least time and overtime together", plan(x, 3), "201");
        due("cost", x.cost(), 120 + 220);
    }

    private static void runRefusalsOfFrozenOnesAlone() {
        DaySwaps x = twoVehicles();
        x.freeze(0, true);
        x.hours(0, 0);
        x.block(2, true);
        due("a blocked one that is not frozen", x.run(), -4);
        x.out(0, 1);
        due("one that can't be done, but is not frozen", x.run(), -4);
        x.hours(0, 220);
        due("holds", x.run(), 2);
    }

    private static void runRefusals() {
        DaySwaps x = twoVehicles();
        x.block(1, true);
        due("found", x.run(), 1);
        x.freeze(0, true);
        x.freeze(1, true);
        due("frozen and blocked", x.run(), -2);
        x.out(0, 0);
        due("blocked comes before out", x.run(), -2);
        x.block(1, false);
        due("frozen can't be done", x.run(), -3);
        x.out(0, 1);
        due("frozen can't be done", x.run(), -3);
        x.hours(0, 0);
        due("out comes before overtime", x.run(), -3);
        x.out(0, 2);
        due("overtime", x.run(), -4);
        due("the plan stays", x.vehicleOf(1), 2);
        due("refusals are not kept", x.undo(), true);
        due("the one before the found one", x.vehicleOf(1), 0);
        due("no more", x.undo(), false);
        x.hours(0, 480);
        due("holds again", x.run(), 0);
    }

    private static void vehicleOf() {
        promise = 10;
        DaySwaps x = twoVehicles();
        for (int stop : new int[] {-1, 3, 8, LOW, HIGH}) {
            due("no such stop", x.vehicleOf(stop), -1);
        }
        due("first", x.vehicleOf(0), 0);
        due("third", x.vehicleOf(2), 1);
        x.block(2, true);
        x.run();
        due("carried", x.vehicleOf(2), 2);
    }

    private static void place() {
        promise = 11;
        DaySwaps x = new DaySwaps(2);
        x.stop(1, 1, 0);
        x.stop(0, 2, 0);
        x.stop(1, 3, 0);
        x.stop(0, 4, 0);
        x.stop(0, 5, 0);
        for (int stop : new int[] {-1, 5, 8, LOW, HIGH}) {
            due("no such stop", x.place(stop), -1);
        }
        due("by rows", places(x, 5), "00112");
        x.block(3, true);
        due("one carried", x.run(), 1);
        due("a carried one has no place", places(x, 5), "001_1");
        DaySwaps y = new DaySwaps(2);
        y.stop(1, 0, 0);
        y.stop(0, 0, 0);
        y.stop(1, 0, 0);
        y.stop(0, 0, 0);
        y.out(1, 0);
        due("others go to vehicle 0", y.run(), 2);
        due("the plan", plan(y, 4), "0000");
        due("its own row first, then others by numbers", places(y, 4), "2031");
    }

    private static void moved() {
        promise = 12;
        DaySwaps x = twoVehicles();
        due("none", x.moved(0), -1);
        x.out(0, 0);
        x.block(2, true);
        x.run();
        due("first", x.moved(0), 0);
        due("second", x.moved(1), 1);
        due("third", x.moved(2), 2);
        for (int k : new int[] {-1, 3, 8, LOW, HIGH}) {
            due("none such", x.moved(k), -1);
        }
        DaySwaps y = cheaperWhenMoved();
        y.run();
        due("not carried, moved all the same", y.moved(0), 1);
        due("no more", y.moved(1), -1);
    }

    private static void carried() {
        promise = 13;
        DaySwaps x = twoVehicles();
        due("none", x.carried(0), -1);
        x.block(0, true);
        x.block(2, true);
        x.run();
        due("first", x.carried(0), 0);
        due("second", x.carried(1), 2);
        for (int k : new int[] {-1, 2, 8, LOW, HIGH}) {
            due("none such", x.carried(k), -1);
        }
        DaySwaps y = cheaperWhenMoved();
        y.run();
        due("moved, but not carried", y.carried(0), -1);
    }

    private static void send() {
        promise = 14;
        DaySwaps x = twoVehicles();
        due("nothing to say", x.send(), 0);
        x.out(0, 1);
        x.block(2, true);
        x.run();
        due("two", x.send(), 2);
        due("once", x.send(), 0);
        x.block(2, false);
        x.run();
        due("one goes back", x.send(), 1);
        x.undo();
        due("undone", x.send(), 1);
        x.undo();
        x.run();
        due("again", x.send(), 1);
        due("once", x.send(), 0);
        x.stop(1, 1, 1);
        due("a new stop has the vehicle of its row", x.send(), 0);
    }

    private static void sendBehindNext() {
        DaySwaps x = cheaperWhenMoved();
        x.run();
        due("one moved to the next day's row", x.next(), 0);
        due("it was told in another row", x.send(), 1);
        due("which", x.sent(1), 1);
        due("once", x.send(), 0);
        DaySwaps y = twoVehicles();
        y.block(0, true);
        y.run();
        due("carried", y.send(), 1);
        y.next();
        due("has its vehicle again", y.send(), 1);
        due("two of it", y.sent(0), 2);
        y.block(0, true);
        y.run();
        y.next();
        due("carried and back without a word", y.send(), 0);
    }

    private static void sent() {
        promise = 15;
        DaySwaps x = twoVehicles();
        for (int stop : new int[] {-1, 3, 8, LOW, HIGH}) {
            due("no such stop", x.sent(stop), -1);
        }
        due("none", x.sent(0), 0);
        x.block(0, true);
        x.run();
        due("not yet", x.sent(0), 0);
        x.send();
        x.send();
        due("once", x.sent(0), 1);
        due("not the others", x.sent(1), 0);
        x.undo();
        due("not undone", x.sent(0), 1);
        x.send();
        due("twice", x.sent(0), 2);
        x.next();
        due("also behind next()", x.sent(0), 2);
    }

    private static void undo() {
        promise = 16;
        DaySwaps x = twoVehicles();
        due("none", x.undo(), false);
        x.block(0, true);
        x.run();
        x.stop(1, 5, 5);
        x.block(3, true);
        x.run();
        x.stop(0, 6, 6);
        x.block(4, true);
        due("three are carried", x.run(), 3);
        due("plan", plan(x, 5), "20122");
        due("undone", x.undo(), true);
        due("plan", plan(x, 5), "20120");
        due("undone", x.undo(), true);
        due("plan", plan(x, 5), "20110");
        due("blocks stay", x.run(), 3);
        due("undone", x.undo(), true);
        due("undone", x.undo(), true);
        due("plan", plan(x, 5), "00110");
        due("none", x.undo(), false);
        due("plan", plan(x, 5), "00110");
        DaySwaps y = twoVehicles();
        y.run();
        y.run();
        due("a run that found the same plan", y.undo(), true);
        due("and the one before", y.undo(), true);
        due("no more", y.undo(), false);
    }

    private static void undoKeepsSix() {
        DaySwaps x = new DaySwaps(1);
        for (int i = 0; i < 8; i++) {
            x.stop(0, 1, 1);
        }
        for (int i = 0; i < 8; i++) {
            x.block(i, true);
            due("one more", x.run(), i + 1);
        }
        for (int i = 7; i >= 2; i--) {
            due("kept", x.undo(), true);
            due("the latest first", x.carried(i - 1), i - 1);
            due("the latest first", x.carried(i), -1);
        }
        due("the six latest", x.undo(), false);
        due("stays", x.carried(1), 1);
        due("run again", x.run(), 8);
        due("kept again", x.undo(), true);
        due("as before", x.carried(2), -1);
        due("no more", x.undo(), false);
    }

    private static void undoOfSixthKnowsItsStops() {
        DaySwaps x = new DaySwaps(1);
        for (int i = 0; i < 8; i++) {
            x.stop(0, 1, 1);
            x.block(i, true);
            due("all are carried", x.run(), i + 1);
        }
        for (int i = 0; i < 6; i++) {
            due("undone", x.undo(), true);
        }
        due("two carried, those told since then in their row", plan(x, 8), "11000000");
    }

    private static void copy() {
        promise = 17;
        DaySwaps x = twoVehicles();
        for (int i = 0; i < 4; i++) {
            due("kept beside", x.copy(), i);
            x.block(i % 3, i < 3);
            x.run();
        }
        due("there are 4", x.copy(), -1);
        due("there are 4", x.copy(), -1);
        due("the plan now has stop 0 alone", plan(x, 3), "022");
        due("copy 0 differs by", x.compare(0, 0), 1);
        due("copy 0 differs by", x.compare(0, 1), 2);
        due("copy 3 differs by", x.compare(3, 0), 0);
        due("copy 3 differs by no more", x.compare(3, 1), -1);
        x.undo();
        due("still 4", x.copy(), -1);
        x.next();
        due("from 0 on again", x.copy(), 0);
    }

    private static void compare() {
        promise = 18;
        DaySwaps x = twoVehicles();
        due("none kept", x.compare(0, 0), -1);
        x.copy();
        due("the same", x.compare(0, 0), -1);
        x.stop(1, 7, 7);
        x.block(3, true);
        x.block(0, true);
        x.block(2, true);
        due("three", x.run(), 3);
        due("first", x.compare(0, 0), 0);
        due("second", x.compare(0, 1), 2);
        due("a stop told since then does not count", x.compare(0, 2), -1);
        for (int wrongOne : new int[] {-1, 1, 4, LOW, HIGH}) {
            due("no such copy", x.compare(wrongOne, 0), -1);
            due("no such k", x.compare(0, wrongOne == 1 ? 2 : wrongOne), -1);
        }
        due("another", x.copy(), 1);
        x.block(0, false);
        x.run();
        due("differs from the plan now", x.compare(1, 0), 0);
        due("by no more", x.compare(1, 1), -1);
        x.next();
        due("not kept", x.compare(0, 0), -1);
    }

    private static void cost() {
        promise = 19;
        DaySwaps x = twoVehicles();
        due("times", x.cost(), 480 + 420);
        x.hours(0, 400);
        x.hours(1, 400);
        due("and overtimes", x.cost(), 480 + 80 + 420 + 20);
        x.block(2, true);
        x.extra(1000);
        x.run();
        due("a vehicle without stops takes no time", x.cost(), 560);
        DaySwaps y = new DaySwaps(3);
        for (int i = 0; i < 8; i++) {
            y.stop(i % 3, 1 + i, 10000);
        }
        for (int a = 0; a < 10; a++) {
            for (int b = 0; b < a; b++) {
                y.way(a, b, 10000);
            }
        }
        for (int vehicle = 0; vehicle < 3; vehicle++) {
            y.hours(vehicle, 0);
        }
        due("the most", y.cost(), 2 * (80000 + 110000));
        y.extra(100000);
        due("holds", y.run(), 0);
    }

    private static void overtime() {
        promise = 20;
        DaySwaps x = twoVehicles();
        for (int vehicle : new int[] {-1, 2, 3, LOW, HIGH}) {
            due("no such vehicle", x.overtime(vehicle), -1);
        }
        x.hours(0, 480);
        due("just so", x.overtime(0), 0);
        x.hours(0, 479);
        due("above", x.overtime(0), 1);
        due("not the other", x.overtime(1), 0);
        x.run();
        due("none by the plan", x.overtime(0), 0);
        x.hours(1, 0);
        due("the other", x.overtime(1), 420);
        x.run();
        due("without stops", x.overtime(1), 0);
    }

    private static void next() {
        promise = 21;
        due("without stops", new DaySwaps(1).next(), 0);
        DaySwaps x = new DaySwaps(2);
        x.stop(0, 0, 0);
        x.stop(1, 0, 0);
        x.stop(0, 0, 0);
        x.stop(1, 0, 0);
        x.stop(0, 0, 0);
        x.stop(0, 0, 0);
        x.block(5, true);
        x.block(2, true);
        x.out(1, 0);
        due("two to vehicle 0, two carried", x.run(), 4);
        due("the plan", plan(x, 6), "002002");
        due("how many were carried", x.next(), 2);
        due("nothing is moved", x.moved(0), -1);
        due("all have vehicle 0", plan(x, 6), "000000");
        due("carried first, then the round", places(x, 6), "240531");
        due("nothing is blocked, nothing out", x.run(), 0);
        x.out(0, 2);
        x.out(1, 0);
        due("by the new rows", x.run(), 4);
        due("those that were carried stay", plan(x, 6), "220220");
        due("four carried", x.next(), 4);
        due("by their numbers, first", places(x, 6), "014235");
    }

    private static void nextClears() {
        DaySwaps x = twoVehicles();
        x.way(0, 1, 70);
        x.freeze(0, true);
        x.block(1, true);
        x.hours(1, 1000);
        x.extra(5);
        x.copy();
        due("one", x.run(), 1);
        due("carried", x.next(), 1);
        due("nothing kept", x.undo(), false);
        due("nothing beside", x.compare(0, 0), -1);
        due("ways stay", x.cost(), 490 + 420);
        due("rows", places(x, 3), "100");
        x.out(0, 0);
        due("none is frozen", x.run(), 2);
        x.out(0, 8);
        x.hours(0, 485);
        due("the extra stays", x.run(), 0);
        x.hours(0, 484);
        due("the extra stays", x.run(), 1);
        due("one more stop behind", x.stop(0, 1, 1), 3);
        due("its row", x.vehicleOf(3), 0);
        DaySwaps y = cheaperWhenMoved();
        y.run();
        due("none carried", y.next(), 0);
        due("moved for good", y.vehicleOf(1), 1);
        due("no more moved", y.moved(0), -1);
        due("behind vehicle 1's own", y.place(1), 1);
        y.out(1, 1);
        due("goes again", y.run(), 1);
        due("it", y.moved(0), 1);
    }

    private static void nextByRows() {
        DaySwaps x = twoVehicles();
        x.stop(1, 4, 0);
        x.block(3, true);
        x.block(1, true);
        x.out(1, 5);
        due("two carried", x.run(), 2);
        due("two carried", x.next(), 2);
        due("each in its row", plan(x, 4), "0011");
        due("first there", places(x, 4), "1010");
        x.out(0, 0);
        due("vehicle 1 is not out", x.run(), 2);
        x.way(0, 1, 0);
        x.way(1, 3, 0);
        x.way(0, 3, 1000);
        due("and takes others", x.run(), 2);
        due("plan", plan(x, 4), "1211");
    }

    /** Row 0: stops 0 (place 1, 100 s) and 1 (place 2, 200 s); row 1: stop 2 (place 3, 300 s). */
    private static DaySwaps twoVehicles() {
        DaySwaps x = new DaySwaps(2);
        x.stop(0, 1, 100);
        x.stop(0, 2, 200);
        x.stop(1, 3, 300);
        return x;
    }

    /** The vehicles of the first stops, a figure each. */
    private static String plan(DaySwaps x, int stops) {
        StringBuilder all = new StringBuilder();
        for (int stop = 0; stop < stops; stop++) {
            all.append(figure(x.vehicleOf(stop)));
        }
        return all.toString();
    }

    /** The places of the first stops in their rounds, a figure each. */
    private static String places(DaySwaps x, int stops) {
        StringBuilder all = new StringBuilder();
        for (int stop = 0; stop < stops; stop++) {
            all.append(figure(x.place(stop)));
        }
        return all.toString();
    }

    private static String figure(int answer) {
        return answer == DaySwaps.NONE ? "_" : String.valueOf(answer);
    }

    private static void due(String what, String got, String want) {
        if (!got.equals(want)) {
            wrong++;
            System.out.println("promise " + promise + ": " + what + ": " + got + ", due is " + want);
        }
    }

    private static void due(String what, boolean got, boolean want) {
        due(what, got ? 1 : 0, want ? 1 : 0);
    }

    private static void due(String what, long got, long want) {
        if (got != want) {
            wrong++;
            System.out.println("promise " + promise + ": " + what + ": answered " + got + ", due is " + want);
        }
    }
}
