import java.util.ArrayDeque;
import java.util.ArrayList;
import java.util.Arrays;
import java.util.Deque;
import java.util.List;
import java.util.Random;

/** Long runs of calls, the same each time, against a plain model that tries every plan. */
public final class ModelTest {
    private static final int OBJECTS = 1300;
    /** With what is asked behind each change and at the end an object gets 512 calls at most. */
    private static final int CHANGES = 55;
    private static int wrong = 0;
    private static final int[] RUN_ANSWERS = new int[13];

    public static void main(String[] args) {
        Random random = new Random(20261115);
        for (int object = 0; object < OBJECTS && wrong == 0; object++) {
            drive(object, random);
        }
        for (int answer : new int[] {-4, -3, -2, 0, 1, 2, 3, 4, 5, 6, 7, 8}) {
            if (RUN_ANSWERS[answer + 4] == 0) {
                wrong++;
                System.out.println("no run() answered " + answer + ": the runs are too tame");
            }
        }
        System.out.println(wrong == 0 ? "all answers are the model's" : wrong + " answers are not the model's");
        if (wrong != 0) {
            System.exit(1);
        }
    }

    private static void drive(int object, Random random) {
        int vehicles = random.nextInt(10) == 0 ? edge(random, 3) : 1 + random.nextInt(3);
        DaySwaps real = new DaySwaps(vehicles);
        Model model = new Model(vehicles);
        List<String> calls = new ArrayList<>();
        calls.add("new DaySwaps(" + vehicles + ")");
        int manyStops = random.nextInt(9);
        for (int change = 0; change < CHANGES && wrong == 0; change++) {
            int kind = change < manyStops ? 0 : random.nextInt(20);
            change(kind, real, model, random, calls);
            glance(real, model, random, calls);
        }
        if (wrong == 0) {
            lookAround(real, model, calls);
        }
        if (wrong != 0) {
            System.out.println("object " + object + ":");
            for (String call : calls) {
                System.out.println("  " + call);
            }
        }
    }

    private static void change(int kind, DaySwaps x, Model m, Random r, List<String> calls) {
        int a = edge(r, m.vehicles);
        int s = edge(r, m.stops.size());
        switch (kind) {
            case 0: {
                int place = edge(r, 10);
                int seconds = seconds(r, 10000);
                same(calls, "stop(" + a + ", " + place + ", " + seconds + ")",
                        x.stop(a, place, seconds), m.stop(a, place, seconds));
                break;
            }
            case 1: {
                boolean is = r.nextInt(3) == 0;
                same(calls, "freeze(" + s + ", " + is + ")", bit(x.freeze(s, is)), bit(m.freeze(s, is)));
                break;
            }
            case 2: case 3: {
                boolean is = r.nextInt(3) == 0;
                same(calls, "block(" + s + ", " + is + ")", bit(x.block(s, is)), bit(m.block(s, is)));
                break;
            }
            case 4: case 5: {
                int from = r.nextInt(2) == 0 ? 8 : edge(r, 9);
                same(calls, "out(" + a + ", " + from + ")", bit(x.out(a, from)), bit(m.out(a, from)));
                break;
            }
            case 6: case 7: {
                int p = edge(r, 10);
                int q = edge(r, 10);
                int seconds = seconds(r, 10000);
                same(calls, "way(" + p + ", " + q + ", " + seconds + ")",
                        bit(x.way(p, q, seconds)), bit(m.way(p, q, seconds)));
                break;
            }
            case 8: case 9: case 10: {
                int seconds = seconds(r, 100000);
                same(calls, "hours(" + a + ", " + seconds + ")", bit(x.hours(a, seconds)), bit(m.hours(a, seconds)));
                break;
            }
            case 11: {
                int seconds = seconds(r, 100000);
                same(calls, "extra(" + seconds + ")", bit(x.extra(seconds)), bit(m.extra(seconds)));
                break;
            }
            case 12: case 13: case 14: {
                int answer = m.run();
                RUN_ANSWERS[answer + 4]++;
                same(calls, "run()", x.run(), answer);
                break;
            }
            case 15: same(calls, "send()", x.send(), m.send()); break;
            case 16: same(calls, "copy()", x.copy(), m.copy()); break;
            case 17: case 18: same(calls, "undo()", bit(x.undo()), bit(m.undo())); break;
            default:
                if (r.nextInt(3) == 0) {
                    same(calls, "next()", x.next(), m.next());
                }
        }
    }

    private static void glance(DaySwaps x, Model m, Random r, List<String> calls) {
        int told = calls.size();
        int s = edge(r, m.stops.size());
        int k = edge(r, 4);
        int copy = edge(r, 3);
        same(calls, "cost()", x.cost(), m.cost());
        same(calls, "vehicleOf(" + s + ")", x.vehicleOf(s), m.vehicleOf(s));
        same(calls, "place(" + s + ")", x.place(s), m.place(s));
        same(calls, "sent(" + s + ")", x.sent(s), m.sent(s));
        same(calls, "moved(" + k + ")", x.moved(k), m.moved(k));
        same(calls, "compare(" + copy + ", " + k + ")", x.compare(copy, k), m.compare(copy, k));
        forgetIfRight(calls, told);
    }

    private static void lookAround(DaySwaps x, Model m, List<String> calls) {
        int told = calls.size();
        for (int i = -1; i <= 9; i++) {
            same(calls, "vehicleOf(" + i + ")", x.vehicleOf(i), m.vehicleOf(i));
            same(calls, "place(" + i + ")", x.place(i), m.place(i));
            same(calls, "moved(" + i + ")", x.moved(i), m.moved(i));
            same(calls, "carried(" + i + ")", x.carried(i), m.carried(i));
            same(calls, "sent(" + i + ")", x.sent(i), m.sent(i));
            for (int copy = -1; copy <= 4; copy++) {
                same(calls, "compare(" + copy + ", " + i + ")", x.compare(copy, i), m.compare(copy, i));
            }
        }
        same(calls, "cost()", x.cost(), m.cost());
        for (int v = -1; v <= 3; v++) {
            same(calls, "overtime(" + v + ")", x.overtime(v), m.overtime(v));
        }
        forgetIfRight(calls, told);
    }

    private static void forgetIfRight(List<String> calls, int told) {
        if (wrong == 0) {
            calls.subList(told, calls.size()).clear();
        }
    }

    private static void same(List<String> calls, String call, long got, long want) {
        calls.add(call + " -> " + got);
        if (got != want) {
            wrong++;
            calls.add("  that is wrong, due is " + want);
        }
    }

    /** Mostly a number 0 .. size - 1, now and then one that is none such. */
    private static int edge(Random r, int size) {
        int kind = r.nextInt(30);
        if (kind == 0) {
            return -1;
        }
        if (kind == 1) {
            return r.nextBoolean() ? Integer.MIN_VALUE : Integer.MAX_VALUE;
        }
        return kind == 2 || size == 0 ? size : r.nextInt(size);
    }

    private static int seconds(Random r, int most) {
        int kind = r.nextInt(20);
        if (kind == 0) {
            return r.nextBoolean() ? most : most + 1;
        }
        if (kind == 1) {
            return -r.nextInt(2);
        }
        // Few different numbers make plans that cost the same.
        return kind < 8 ? r.nextInt(most + 1) : 60 * r.nextInt(12);
    }

    private static long bit(boolean answer) {
        return answer ? 1 : 0;
    }

    private static final class Stop {
        final int place;
        final int service;
        final int told;
        boolean frozen;
        boolean blocked;
        int vehicle;
        List<Integer> notices = new ArrayList<>();

        Stop(int place, int service, int told) {
            this.place = place;
            this.service = service;
            this.told = told;
            this.vehicle = told;
        }
    }

    private static final class Model {
        final int vehicles;
        final List<Stop> stops = new ArrayList<>();
        List<List<Integer>> rows = new ArrayList<>();
        final int[][] ways = new int[10][10];
        final int[] hours = {28800, 28800, 28800};
        final int[] outs = {8, 8, 8};
        int extra = 0;
        final Deque<int[]> kept = new ArrayDeque<>();
        final List<int[]> beside = new ArrayList<>();

        Model(int told) {
            vehicles = told == 2 || told == 3 ? told : 1;
            for (int v = 0; v < vehicles; v++) {
                rows.add(new ArrayList<>());
            }
            for (int a = 0; a < 10; a++) {
                for (int b = 0; b < 10; b++) {
                    ways[a][b] = a == b ? 0 : 60;
                }
            }
        }

        boolean isVehicle(int v) {
            return v >= 0 && v < vehicles;
        }

        boolean isStop(int s) {
            return s >= 0 && s < stops.size();
        }

        int stop(int v, int place, int seconds) {
            if (stops.size() == 8 || !isVehicle(v) || place < 0 || place > 9 || seconds < 0 || seconds > 10000) {
                return -1;
            }
            rows.get(v).add(stops.size());
            stops.add(new Stop(place, seconds, v));
            return stops.size() - 1;
        }

        boolean freeze(int s, boolean is) {
            if (isStop(s)) {
                stops.get(s).frozen = is;
            }
            return isStop(s);
        }

        boolean block(int s, boolean is) {
            if (isStop(s)) {
                stops.get(s).blocked = is;
            }
            return isStop(s);
        }

        boolean out(int v, int from) {
            boolean fine = isVehicle(v) && from >= 0 && from <= 8;
            if (fine) {
                outs[v] = from;
            }
            return fine;
        }

        boolean way(int a, int b, int seconds) {
            boolean fine = a >= 0 && a <= 9 && b >= 0 && b <= 9 && a != b && seconds >= 0 && seconds <= 10000;
            if (fine) {
                ways[a][b] = ways[b][a] = seconds;
            }
            return fine;
        }

        boolean hours(int v, int seconds) {
            boolean fine = isVehicle(v) && seconds >= 0 && seconds <= 100000;
            if (fine) {
                hours[v] = seconds;
            }
            return fine;
        }

        boolean extra(int seconds) {
            boolean fine = seconds >= 0 && seconds <= 100000;
            if (fine) {
                extra = seconds;
            }
            return fine;
        }

        int rowOf(int s) {
            for (int v = 0; v < vehicles; v++) {
                if (rows.get(v).contains(s)) {
                    return v;
                }
            }
            throw new IllegalStateException();
        }

        int[] planNow() {
            return stops.stream().mapToInt(stop -> stop.vehicle).toArray();
        }

        List<Integer> round(int[] plan, int v) {
            List<Integer> round = new ArrayList<>();
            for (int s : rows.get(v)) {
                if (plan[s] == v) {
                    round.add(s);
                }
            }
            for (int s = 0; s < plan.length; s++) {
                if (plan[s] == v && !rows.get(v).contains(s)) {
                    round.add(s);
                }
            }
            return round;
        }

        int time(int[] plan, int v) {
            List<Integer> round = round(plan, v);
            if (round.isEmpty()) {
                return 0;
            }
            int time = ways[0][stops.get(round.get(0)).place];
            for (int i = 0; i < round.size(); i++) {
                Stop stop = stops.get(round.get(i));
                int to = i + 1 < round.size() ? stops.get(round.get(i + 1)).place : 0;
                time += stop.service + ways[stop.place][to];
            }
            return time;
        }

        int over(int[] plan, int v) {
            return Math.max(time(plan, v) - hours[v], 0);
        }

        long costOf(int[] plan) {
            long sum = 0;
            for (int v = 0; v < vehicles; v++) {
                sum += time(plan, v) + over(plan, v);
            }
            return sum;
        }

        int movedBy(int[] plan) {
            int count = 0;
            for (int s = 0; s < plan.length; s++) {
                count += plan[s] == rowOf(s) ? 0 : 1;
            }
            return count;
        }

        boolean canDo(int v, int s) {
            int at = rows.get(v).indexOf(s);
            return outs[v] == 8 || at >= 0 && at < outs[v];
        }

        boolean may(int s, int v) {
            Stop stop = stops.get(s);
            if (stop.frozen && v != rowOf(s)) {
                return false;
            }
            return v == vehicles || !stop.blocked && canDo(v, s);
        }

        int[] best;

        /** All plans in the order of their vehicles; the first of the best stays. */
        void tryAll(int[] plan, int s) {
            if (s < plan.length) {
                for (int v = 0; v <= vehicles; v++) {
                    if (may(s, v)) {
                        plan[s] = v;
                        tryAll(plan, s + 1);
                    }
                }
                return;
            }
            if (best != null && movedBy(plan) > movedBy(best)) {
                return;
            }
            for (int v = 0; v < vehicles; v++) {
                if (over(plan, v) > extra) {
                    return;
                }
            }
            if (best == null || movedBy(plan) < movedBy(best) || costOf(plan) < costOf(best)) {
                best = plan.clone();
            }
        }

        int run() {
            best = null;
            tryAll(new int[stops.size()], 0);
            if (best == null) {
                return stops.stream().anyMatch(stop -> stop.frozen && stop.blocked) ? -2 : frozenCannot() ? -3 : -4;
            }
            kept.addLast(planNow());
            if (kept.size() > 6) {
                kept.removeFirst();
            }
            for (int s = 0; s < best.length; s++) {
                stops.get(s).vehicle = best[s];
            }
            return movedBy(best);
        }

        boolean frozenCannot() {
            for (int s = 0; s < stops.size(); s++) {
                if (stops.get(s).frozen && !canDo(rowOf(s), s)) {
                    return true;
                }
            }
            return false;
        }

        int vehicleOf(int s) {
            return isStop(s) ? stops.get(s).vehicle : -1;
        }

        int place(int s) {
            return !isStop(s) || vehicleOf(s) == vehicles ? -1 : round(planNow(), vehicleOf(s)).indexOf(s);
        }

        int pick(List<Integer> list, int k) {
            return k >= 0 && k < list.size() ? list.get(k) : -1;
        }

        int moved(int k) {
            List<Integer> list = new ArrayList<>();
            for (int s = 0; s < stops.size(); s++) {
                if (vehicleOf(s) != rowOf(s)) {
                    list.add(s);
                }
            }
            return pick(list, k);
        }

        int carried(int k) {
            List<Integer> list = new ArrayList<>();
            for (int s = 0; s < stops.size(); s++) {
                if (vehicleOf(s) == vehicles) {
                    list.add(s);
                }
            }
            return pick(list, k);
        }

        int send() {
            int count = 0;
            for (Stop stop : stops) {
                int said = stop.notices.isEmpty() ? stop.told : stop.notices.get(stop.notices.size() - 1);
                if (said != stop.vehicle) {
                    stop.notices.add(stop.vehicle);
                    count++;
                }
            }
            return count;
        }

        int sent(int s) {
            return isStop(s) ? stops.get(s).notices.size() : -1;
        }

        boolean undo() {
            if (kept.isEmpty()) {
                return false;
            }
            int[] before = kept.removeLast();
            for (int s = 0; s < stops.size(); s++) {
                stops.get(s).vehicle = s < before.length ? before[s] : rowOf(s);
            }
            return true;
        }

        int copy() {
            if (beside.size() == 4) {
                return -1;
            }
            beside.add(planNow());
            return beside.size() - 1;
        }

        int compare(int copy, int k) {
            if (copy < 0 || copy >= beside.size()) {
                return -1;
            }
            List<Integer> list = new ArrayList<>();
            for (int s = 0; s < beside.get(copy).length; s++) {
                if (beside.get(copy)[s] != vehicleOf(s)) {
                    list.add(s);
                }
            }
            return pick(list, k);
        }

        long cost() {
            return costOf(planNow());
        }

        int overtime(int v) {
            return isVehicle(v) ? over(planNow(), v) : -1;
        }

        int next() {
            int count = 0;
            List<List<Integer>> rowsOfNext = new ArrayList<>();
            for (int v = 0; v < vehicles; v++) {
                List<Integer> row = new ArrayList<>();
                for (int s = 0; s < stops.size(); s++) {
                    if (vehicleOf(s) == vehicles && rowOf(s) == v) {
                        row.add(s);
                        count++;
                    }
                }
                row.addAll(round(planNow(), v));
                rowsOfNext.add(row);
            }
            rows = rowsOfNext;
            for (int s = 0; s < stops.size(); s++) {
                Stop stop = stops.get(s);
                stop.vehicle = rowOf(s);
                stop.frozen = false;
                stop.blocked = false;
            }
            Arrays.fill(outs, 8);
            kept.clear();
            beside.clear();
            return count;
        }
    }
}
