import java.util.ArrayList;
import java.util.List;

/**
 * "A call that is refused changes nothing": two objects get the same calls, one of them also a call
 * that is refused; all that they answer from then on must be the same.
 */
public final class RefusedTest {
    private static final int LOW = Integer.MIN_VALUE;
    private static final int HIGH = Integer.MAX_VALUE;
    private static final int MOST_CALLS = 512;
    private static final List<Scene> SCENES = new ArrayList<>();
    private static int calls = 0;
    private static int compared = 0;
    private static int wrong = 0;

    private interface Call {
        long on(DaySwaps x);
    }

    private interface Start {
        DaySwaps make();
    }

    /** A state in which calls are refused: how many vehicles, stops, kept plans and copies it has. */
    private record Scene(String name, int vehicles, int stops, int kept, int copies, long run, Start start) { }

    private record Refused(String name, long answer, Call call) { }

    public static void main(String[] args) {
        makeScenes();
        for (Scene scene : SCENES) {
            for (Refused refused : refusedIn(scene)) {
                compareTwins(scene, refused);
            }
        }
        System.out.println(wrong == 0 ? compared + " refused calls changed nothing" : wrong + " answers are not as due");
        if (wrong != 0) {
            System.exit(1);
        }
    }

    private static void makeScenes() {
        SCENES.add(new Scene("new", 2, 0, 0, 0, 0, () -> new DaySwaps(2)));
        SCENES.add(new Scene("three stops", 2, 3, 0, 0, 0, RefusedTest::threeStops));
        SCENES.add(new Scene("full", 3, 8, 6, 4, 5, RefusedTest::full));
        SCENES.add(new Scene("frozen and blocked", 2, 3, 1, 1, -2, RefusedTest::frozenAndBlocked));
        SCENES.add(new Scene("frozen and out", 2, 3, 1, 0, -3, RefusedTest::frozenAndOut));
        SCENES.add(new Scene("no hours", 2, 3, 6, 0, -4, RefusedTest::noHours));
        SCENES.add(new Scene("next day", 3, 8, 0, 0, 0, RefusedTest::nextDay));
        SCENES.add(new Scene("one vehicle", 1, 1, 0, 4, 1, RefusedTest::oneVehicle));
    }

    private static DaySwaps threeStops() {
        DaySwaps x = new DaySwaps(2);
        x.stop(0, 1, 100);
        x.stop(0, 2, 200);
        x.stop(1, 9, 300);
        x.hours(1, 500);
        x.extra(20);
        return x;
    }

    private static DaySwaps full() {
        DaySwaps x = new DaySwaps(3);
        int[] places = {1, 1, 2, 0, 9, 2, 1, 9};
        for (int i = 0; i < 8; i++) {
            x.stop(i / 3, places[i], 100 * i);
        }
        for (int i = 0; i < 7; i++) {
            x.block(i, i % 2 == 0);
            x.run();
            x.copy();
        }
        x.send();
        x.freeze(1, true);
        x.out(2, 1);
        return x;
    }

    private static DaySwaps frozenAndBlocked() {
        DaySwaps x = threeStops();
        x.block(0, true);
        x.run();
        x.copy();
        x.freeze(0, true);
        return x;
    }

    private static DaySwaps frozenAndOut() {
        DaySwaps x = threeStops();
        x.out(0, 1);
        x.run();
        x.send();
        x.freeze(1, true);
        return x;
    }

    private static DaySwaps noHours() {
        DaySwaps x = threeStops();
        for (int i = 0; i < 7; i++) {
            x.block(i % 3, i < 4);
            x.run();
        }
        x.freeze(2, true);
        x.block(2, false);
        x.hours(1, 3);
        return x;
    }

    private static DaySwaps nextDay() {
        DaySwaps x = full();
        x.run();
        x.next();
        return x;
    }

    private static DaySwaps oneVehicle() {
        DaySwaps x = new DaySwaps(4);
        x.stop(0, 5, 5);
        x.block(0, true);
        for (int i = 0; i < 4; i++) {
            x.copy();
        }
        return x;
    }

    private static List<Refused> refusedIn(Scene scene) {
        List<Refused> all = new ArrayList<>();
        for (int vehicle : new int[] {LOW, -1, scene.vehicles, 3, HIGH}) {
            all.add(new Refused("stop of vehicle " + vehicle, -1, x -> x.stop(vehicle, 1, 1)));
            all.add(new Refused("out of vehicle " + vehicle, 0, x -> bit(x.out(vehicle, 0))));
            all.add(new Refused("hours of vehicle " + vehicle, 0, x -> bit(x.hours(vehicle, 1))));
            all.add(new Refused("overtime of vehicle " + vehicle, -1, x -> x.overtime(vehicle)));
        }
        for (int stop : new int[] {LOW, -1, scene.stops, 8, HIGH}) {
            addOfStop(all, stop);
        }
        addOfPlaces(all);
        addOfSeconds(all);
        addOfFull(all, scene);
        return all;
    }

    private static void addOfStop(List<Refused> all, int stop) {
        for (boolean is : new boolean[] {true, false}) {
            all.add(new Refused("freeze of " + stop + " " + is, 0, x -> bit(x.freeze(stop, is))));
            all.add(new Refused("block of " + stop + " " + is, 0, x -> bit(x.block(stop, is))));
        }
        all.add(new Refused("vehicleOf " + stop, -1, x -> x.vehicleOf(stop)));
        all.add(new Refused("place " + stop, -1, x -> x.place(stop)));
        all.add(new Refused("sent " + stop, -1, x -> x.sent(stop)));
        all.add(new Refused("moved " + stop, -1, x -> x.moved(stop < 0 ? stop : 8)));
        all.add(new Refused("carried " + stop, -1, x -> x.carried(stop < 0 ? stop : 8)));
        all.add(new Refused("compare 0 with " + stop, -1, x -> x.compare(0, stop < 0 ? stop : 8)));
    }

    private static void addOfPlaces(List<Refused> all) {
        for (int place : new int[] {LOW, -1, 10, HIGH}) {
            all.add(new Refused("stop at " + place, -1, x -> x.stop(0, place, 1)));
            all.add(new Refused("way from " + place, 0, x -> bit(x.way(place, 1, 1))));
            all.add(new Refused("way to " + place, 0, x -> bit(x.way(1, place, 1))));
        }
        for (int place = 0; place <= 9; place++) {
            int same = place;
            all.add(new Refused("way from " + same + " to itself", 0, x -> bit(x.way(same, same, 1))));
        }
        for (int from : new int[] {LOW, -1, 9, HIGH}) {
            all.add(new Refused("out from " + from, 0, x -> bit(x.out(0, from))));
        }
    }

    private static void addOfSeconds(List<Refused> all) {
        for (int seconds : new int[] {LOW, -1, 10001, HIGH}) {
            all.add(new Refused("stop of " + seconds, -1, x -> x.stop(0, 1, seconds)));
            for (int a : new int[] {0, 1, 2, 9}) {
                for (int b : new int[] {0, 1, 2, 9}) {
                    all.add(new Refused("way " + a + " " + b + " " + seconds, 0, x -> bit(x.way(a, b, seconds))));
                }
            }
        }
        for (int seconds : new int[] {LOW, -1, 100001, HIGH}) {
            all.add(new Refused("hours of " + seconds, 0, x -> bit(x.hours(0, seconds))));
            all.add(new Refused("extra of " + seconds, 0, x -> bit(x.extra(seconds))));
        }
    }

    private static void addOfFull(List<Refused> all, Scene scene) {
        for (int copy : new int[] {LOW, -1, scene.copies, 4, HIGH}) {
            all.add(new Refused("compare " + copy, -1, x -> x.compare(copy, 0)));
        }
        if (scene.stops == 8) {
            all.add(new Refused("a ninth stop", -1, x -> x.stop(0, 1, 1)));
        }
        if (scene.copies == 4) {
            all.add(new Refused("a fifth copy", -1, x -> x.copy()));
        }
        if (scene.kept == 0) {
            all.add(new Refused("undo of none", 0, x -> bit(x.undo())));
        }
        if (scene.run < 0) {
            all.add(new Refused("run without a plan that holds", scene.run, x -> x.run()));
        }
    }

    private static void compareTwins(Scene scene, Refused refused) {
        compared++;
        DaySwaps plain = scene.start.make();
        DaySwaps other = scene.start.make();
        for (int time = 0; time < 2; time++) {
            long answer = refused.call.on(other);
            if (answer != refused.answer) {
                tell(scene, refused, "answered " + answer + ", due is " + refused.answer);
            }
        }
        List<String> due = story(plain, scene);
        List<String> got = story(other, scene);
        for (int i = 0; i < due.size(); i++) {
            if (!due.get(i).equals(got.get(i))) {
                tell(scene, refused, "then " + got.get(i) + ", due is " + due.get(i));
                return;
            }
        }
    }

    private static void tell(Scene scene, Refused refused, String what) {
        wrong++;
        System.out.println(scene.name + ": " + refused.name + ": " + what);
    }

    /** Calls that bring to light all that an object holds, with what they answered. */
    private static List<String> story(DaySwaps x, Scene scene) {
        List<String> told = new ArrayList<>();
        calls = 60;
        look(x, told);
        check(scene, told, "run()", x.run(), scene.run);
        lookAtPlan(x, told);
        int undone = 0;
        while (undone < 8 && asked(told, "undo()", bit(x.undo())) == 1) {
            undone++;
            lookAtPlan(x, told);
        }
        check(scene, told, "kept", undone, Math.min(6, scene.kept + (scene.run < 0 ? 0 : 1)));
        asked(told, "send()", x.send());
        int copies = 0;
        while (copies < 5 && asked(told, "copy()", x.copy()) >= 0) {
            copies++;
        }
        check(scene, told, "copies", copies, 4 - scene.copies);
        unfreezeAndRun(x, told);
        asked(told, "next()", x.next());
        look(x, told);
        fillAndRun(x, told, scene);
        if (calls > MOST_CALLS) {
            throw new IllegalStateException("the story has " + calls + " calls");
        }
        return told;
    }

    private static void check(Scene scene, List<String> told, String what, long got, long want) {
        asked(told, what, got);
        if (got != want) {
            wrong++;
            System.out.println(scene.name + ": " + what + ": " + got + ", due is " + want);
        }
    }

    private static void unfreezeAndRun(DaySwaps x, List<String> told) {
        for (int stop = 0; stop < 8; stop++) {
            asked(told, "freeze", bit(x.freeze(stop, false)));
        }
        asked(told, "run()", x.run());
        lookAtPlan(x, told);
        for (int stop = 0; stop < 8; stop++) {
            asked(told, "block", bit(x.block(stop, false)));
        }
        asked(told, "run()", x.run());
        lookAtPlan(x, told);
    }

    private static void fillAndRun(DaySwaps x, List<String> told, Scene scene) {
        int stops = scene.stops;
        for (int place : new int[] {1, 1, 2, 9, 0, 2, 9, 1}) {
            int answer = (int) asked(told, "stop", x.stop(0, place, 11));
            check(scene, told, "number", answer, stops < 8 ? stops : -1);
            stops += stops < 8 ? 1 : 0;
        }
        lookAtPlan(x, told);
        for (int vehicle = 0; vehicle < 3; vehicle++) {
            asked(told, "overtime", x.overtime(vehicle));
            asked(told, "hours", bit(x.hours(vehicle, 300)));
            asked(told, "run()", x.run());
            lookAtPlan(x, told);
        }
    }

    private static void lookAtPlan(DaySwaps x, List<String> told) {
        for (int stop = 0; stop < 8; stop++) {
            asked(told, "vehicleOf(" + stop + ")", x.vehicleOf(stop));
        }
        asked(told, "cost()", x.cost());
    }

    private static void look(DaySwaps x, List<String> told) {
        lookAtPlan(x, told);
        for (int i = 0; i < 8; i++) {
            asked(told, "place(" + i + ")", x.place(i));
            asked(told, "moved(" + i + ")", x.moved(i));
            asked(told, "carried(" + i + ")", x.carried(i));
            asked(told, "sent(" + i + ")", x.sent(i));
            for (int copy = 0; copy < 4; copy++) {
                asked(told, "compare(" + copy + ", " + i + ")", x.compare(copy, i));
            }
        }
        for (int vehicle = 0; vehicle < 3; vehicle++) {
            asked(told, "overtime(" + vehicle + ")", x.overtime(vehicle));
        }
    }

    private static long asked(List<String> told, String call, long answer) {
        calls++;
        told.add(call + " " + answer);
        return answer;
    }

    private static long bit(boolean is) {
        return is ? 1 : 0;
    }
}
