import java.util.function.IntSupplier;

/** Long runs of calls, made by a fixed row of numbers, answered by the bench and by the plain model alike. */
public final class ModelTest {
    private static final int RUNS = 60;
    private static final int CALLS = 512;

    private final Check check;
    private final int run;
    private final Stairflow bench = new Stairflow();
    private final Model model = new Model();
    private long seed;
    private int calls;

    private ModelTest(Check check, int run) {
        this.check = check;
        this.run = run;
        this.seed = run * 7919L + 1;
    }

    public static void main(String[] args) {
        Check check = new Check();
        for (int run = 0; run < RUNS; run++) {
            new ModelTest(check, run).go();
        }
        check.end();
    }

    private void go() {
        build();
        while (calls < CALLS) {
            if (next(4) == 0) {
                change();
            } else {
                look();
            }
        }
    }

    /** Most runs begin with a bench on which much can happen; the others begin with nothing. */
    private void build() {
        if (run % 5 == 0) {
            return;
        }
        int inside = 2 + next(9);
        for (int i = 0; i < inside; i++) {
            addPlace(1 + next(30));
        }
        for (int place = 1; place <= inside; place++) {
            addDoor(place, next(place), 1 + next(9), 1 + next(5));
        }
        for (int i = next(16 - inside); i > 0; i--) {
            addDoor(next(inside + 1), next(inside + 1), 1 + next(9), 1 + next(5));
        }
        for (int place = 1; place <= inside; place++) {
            come(place, 1 + next(30));
        }
    }

    private void change() {
        switch (next(12)) {
            case 0 -> addPlace(next(36) - 2);
            case 1 -> addDoor(somePlace(), somePlace(), next(11), next(7));
            case 2, 3 -> {
                int door = someDoor();
                boolean open = next(3) > 0;
                same("setDoor(" + door + ", " + open + ")", () -> bench.setDoor(door, open) ? 1 : 0,
                    () -> model.setDoor(door, open));
            }
            case 4 -> {
                int place = somePlace();
                int time = next(8) == 0 ? next(1005) - 2 : bench.now() + next(8);
                same("setRelease(" + place + ", " + time + ")", () -> bench.setRelease(place, time),
                    () -> model.setRelease(place, time));
            }
            case 5 -> {
                if (next(10) == 0) {
                    same("clear()", bench::clear, model::clear);
                }
            }
            case 6, 7, 8 -> {
                int steps = next(20) == 0 ? next(55) - 2 : 1 + next(3);
                same("step(" + steps + ")", () -> bench.step(steps), () -> model.step(steps));
            }
            default -> come(somePlace(), next(3) == 0 ? next(33) : 1 + next(6));
        }
    }

    private void look() {
        int place = somePlace();
        int door = someDoor();
        switch (next(13)) {
            case 0 -> same("places()", bench::places, model::places);
            case 1 -> same("doors()", bench::doors, model::doors);
            case 2 -> same("now()", bench::now, model::now);
            case 3 -> same("people(" + place + ")", () -> bench.people(place), () -> model.people(place));
            case 4 -> same("inside()", bench::inside, model::inside);
            case 5 -> same("latest()", bench::latest, model::latest);
            case 6 -> same("passed(" + door + ")", () -> bench.passed(door), () -> model.passed(door));
            case 7 -> same("waited()", bench::waited, model::waited);
            case 8 -> same("distance(" + place + ")", () -> bench.distance(place), () -> model.distance(place));
            case 9 -> same("door(" + place + ")", () -> bench.door(place), () -> model.door(place));
            case 10 -> same("trapped()", bench::trapped, model::trapped);
            case 11 -> same("wouldMove(" + place + ")", () -> bench.wouldMove(place), () -> model.wouldMove(place));
            default -> same("bound()", bench::bound, model::bound);
        }
    }

    private void addPlace(int room) {
        same("addPlace(" + room + ")", () -> bench.addPlace(room), () -> model.addPlace(room));
    }

    private void addDoor(int one, int other, int flow, int share) {
        same("addDoor(" + one + ", " + other + ", " + flow + ", " + share + ")",
            () -> bench.addDoor(one, other, flow, share), () -> model.addDoor(one, other, flow, share));
    }

    private void come(int place, int people) {
        same("come(" + place + ", " + people + ")", () -> bench.come(place, people), () -> model.come(place, people));
    }

    private void same(String call, IntSupplier got, IntSupplier due) {
        calls++;
        check.equal("run " + run + ", call " + calls + ": " + call, Snapshot.answer(got), Snapshot.answer(due));
    }

    private int somePlace() {
        return next(20) == 0 ? next(14) - 2 : next(model.places());
    }

    private int someDoor() {
        return next(20) == 0 || model.doors() == 0 ? next(19) - 2 : next(model.doors());
    }

    private int next(int below) {
        seed = seed * 6364136223846793005L + 1442695040888963407L;
        return (int) ((seed >>> 33) % below);
    }
}
