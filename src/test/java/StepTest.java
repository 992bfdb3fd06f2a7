/** Promises 9 to 11, sentence by sentence: step, clear, now. */
public final class StepTest {
    private static final Check CHECK = new Check();

    public static void main(String[] args) {
        CHECK.sentence("9: Lets steps pass.", StepTest::letsStepsPass);
        CHECK.sentence("9: steps: 1 to 50", StepTest::steps);
        CHECK.sentence("9: Returns how many people reach the outside in them.", StepTest::howManyReachTheOutside);
        CHECK.sentence("9: IllegalArgumentException if steps is out of range", StepTest::stepsOutOfRange);
        CHECK.sentence("10: Lets steps pass until nobody is inside", StepTest::untilNobodyIsInside);
        CHECK.sentence("10: or nobody moves in a step", StepTest::nobodyMoves);
        CHECK.sentence("10: and the release times of all places", StepTest::releasesOfAllPlaces);
        CHECK.sentence("10: and the release times of all places (the outside is one)", StepTest::releaseOfTheOutside);
        CHECK.sentence("10: also of those without people", StepTest::releaseWithoutPeople);
        CHECK.sentence("10: are past (at most the time at the beginning of that step)", StepTest::releasePast);
        CHECK.sentence("10: but at most 300 steps", StepTest::atMost300Steps);
        CHECK.sentence("10: but at most 300 steps (people move in all of them)", StepTest::atMost300StepsWithMoves);
        CHECK.sentence("10: none at all if nobody is inside at the beginning", StepTest::noneAtAll);
        CHECK.sentence("10: Returns how many steps have passed, the last one included.", StepTest::lastOneIncluded);
        CHECK.sentence("11: Returns the time.", StepTest::time);
        CHECK.end();
    }

    /** Some steps at once are as many single ones; what is done between two calls is heeded by the later one. */
    private static void letsStepsPass() {
        for (int steps = 1; steps <= 50; steps++) {
            Stairflow x = Benches.busy();
            Stairflow y = Benches.busy();
            int reached = 0;
            for (int i = 0; i < steps; i++) {
                reached += y.step(1);
            }
            CHECK.equal("step(" + steps + ")", x.step(steps), reached);
            CHECK.equal("a bench behind step(" + steps + ")", Snapshot.of(x), Snapshot.of(y));
            x.setDoor(2, true);
            y.setDoor(2, true);
            CHECK.equal("step(2) behind step(" + steps + ")", x.step(2), y.step(1) + y.step(1));
            CHECK.equal("a bench behind two more", Snapshot.of(x), Snapshot.of(y));
        }
    }

    private static void steps() {
        Stairflow x = Benches.oneRoom(1);
        int time = 0;
        for (int steps = 1; steps <= 50; steps++) {
            if (x.people(1) < 30) {
                x.come(1, 30 - x.people(1));
            }
            CHECK.equal("step(" + steps + ")", x.step(steps), Math.min(steps, 30));
            time += steps;
            CHECK.equal("now() behind step(" + steps + ")", x.now(), time);
        }
        x.clear();
        time = x.now();
        CHECK.equal("step(50) with nobody inside", x.step(50), 0);
        CHECK.equal("now() behind step(50) with nobody inside", x.now(), time + 50);
    }

    /** Who reached it before does not count, and who only moves inside does not. */
    private static void howManyReachTheOutside() {
        Stairflow x = Benches.row(3, 2);
        x.come(3, 5);
        CHECK.equal("step(2)", x.step(2), 0);
        CHECK.equal("step(1)", x.step(1), 2);
        CHECK.equal("step(1)", x.step(1), 2);
        CHECK.equal("step(1)", x.step(1), 1);
        CHECK.equal("step(1)", x.step(1), 0);
        x.come(3, 5);
        CHECK.equal("step(4)", x.step(4), 4);
        CHECK.equal("step(50)", x.step(50), 1);
        Stairflow y = Benches.places(2);
        y.addDoor(1, 0, 9, 1);
        y.addDoor(2, 0, 8, 1);
        y.come(1, 9);
        y.come(2, 9);
        CHECK.equal("step(1) by two doors", y.step(1), 17);
    }

    private static void stepsOutOfRange() {
        for (int steps : new int[] {0, -1, -50, 51, 52}) {
            CHECK.refuses(Benches::busy, IllegalArgumentException.class, "step(" + steps + ")", x -> x.step(steps));
        }
        for (int steps : Benches.FAR) {
            CHECK.refuses(Benches::busy, IllegalArgumentException.class, "step(" + steps + ")", x -> x.step(steps));
        }
    }

    /** The row gives the people, and the steps by a flow of 4. */
    private static void untilNobodyIsInside() {
        for (int[] row : new int[][] {{1, 1}, {3, 1}, {4, 1}, {5, 2}, {8, 2}, {9, 3}, {29, 8}, {30, 8}}) {
            Stairflow x = Benches.oneRoom(4);
            x.addPlace(5);
            x.setRelease(2, 1000);
            x.come(1, row[0]);
            CHECK.equal("clear() of " + row[0], x.clear(), row[1]);
            CHECK.equal("now()", x.now(), row[1]);
            CHECK.equal("inside()", x.inside(), 0);
            CHECK.equal("people(0)", x.people(0), row[0]);
            x.come(1, 4);
            CHECK.equal("clear() once more", x.clear(), 1);
            CHECK.equal("now() once more", x.now(), row[1] + 1);
        }
    }

    private static void nobodyMoves() {
        Stairflow x = Benches.oneRoom(4);
        x.addPlace(5);
        x.come(2, 5);
        CHECK.equal("clear() with nobody who can move", x.clear(), 1);
        CHECK.equal("clear() again", x.clear(), 1);
        x.come(1, 9);
        CHECK.equal("clear() with three steps of moves", x.clear(), 3 + 1);
        CHECK.equal("inside()", x.inside(), 5);
        CHECK.equal("people(0)", x.people(0), 9);

        Stairflow y = Benches.row(10, 1);
        y.come(10, 1);
        CHECK.equal("clear(): it goes on while somebody moves inside", y.clear(), 10);
        CHECK.equal("people(0)", y.people(0), 1);
    }

    private static void releasesOfAllPlaces() {
        Stairflow x = Benches.oneRoom(4);
        x.come(1, 9);
        x.setRelease(1, 20);
        CHECK.equal("clear() with a release at 20", x.clear(), 20 + 3);
        Stairflow y = Benches.row(3, 1);
        y.come(3, 1);
        y.come(2, 1);
        y.setRelease(3, 5);
        y.setRelease(2, 40);
        y.setRelease(1, 60);
        CHECK.equal("clear() with a release in each place", y.clear(), 60 + 2);
        CHECK.equal("latest()", y.latest(), 62);
    }

    private static void releaseOfTheOutside() {
        Stairflow x = Benches.places(1);
        x.come(1, 5);
        x.setRelease(0, 7);
        CHECK.equal("clear() with the outside released at 7", x.clear(), 7 + 1);
    }

    private static void releaseWithoutPeople() {
        for (int place = 1; place <= 10; place++) {
            if (place != 2) {
                Stairflow x = Benches.places(10);
                x.come(2, 5);
                x.setRelease(place, 10);
                CHECK.equal("clear() with the empty place " + place + " released at 10", x.clear(), 10 + 1);
                CHECK.equal("now()", x.now(), 11);
                CHECK.equal("clear() again", x.clear(), 1);
            }
        }
    }

    /** Nobody can move; the row gives the time at the beginning, the release, and the steps. */
    private static void releasePast() {
        int[][] due = {{0, 0, 1}, {0, 1, 2}, {0, 2, 3}, {5, 4, 1}, {5, 5, 1}, {5, 6, 2}, {5, 7, 3}, {5, 0, 1}};
        for (int[] row : due) {
            Stairflow x = Benches.places(1);
            x.come(1, 1);
            if (row[0] > 0) {
                x.step(row[0]);
            }
            x.setRelease(1, row[1]);
            CHECK.equal("clear() at " + row[0] + ", released at " + row[1], x.clear(), row[2]);
            CHECK.equal("now()", x.now(), row[0] + row[2]);
        }
    }

    /** Nobody can move until the release; the row gives the release, and the steps of three calls. */
    private static void atMost300Steps() {
        int[][] due = {{298, 299, 1, 1}, {299, 300, 1, 1}, {300, 300, 1, 1}, {301, 300, 2, 1}, {599, 300, 300, 1},
            {600, 300, 300, 1}, {601, 300, 300, 2}, {1000, 300, 300, 300}};
        for (int[] row : due) {
            Stairflow x = Benches.places(1);
            x.come(1, 1);
            x.setRelease(1, row[0]);
            for (int call = 1; call <= 3; call++) {
                CHECK.equal("clear() number " + call + ", released at " + row[0], x.clear(), row[call]);
            }
        }
    }

    /** 30 people go one by one from the release on: the row gives the release, the steps, and who is left. */
    private static void atMost300StepsWithMoves() {
        int[][] due = {{269, 299, 0}, {270, 300, 0}, {271, 300, 1}, {299, 300, 29}, {300, 300, 30}};
        for (int[] row : due) {
            Stairflow x = Benches.oneRoom(1);
            x.come(1, 30);
            x.setRelease(1, row[0]);
            CHECK.equal("clear(), released at " + row[0], x.clear(), row[1]);
            CHECK.equal("now()", x.now(), row[1]);
            CHECK.equal("inside()", x.inside(), row[2]);
            CHECK.equal("clear() for those who are left", x.clear(), row[2]);
            CHECK.equal("inside()", x.inside(), 0);
        }
        Stairflow y = Benches.row(10, 1);
        for (int place = 1; place <= 10; place++) {
            y.come(place, 30);
        }
        CHECK.equal("clear() of 300 people by a flow of 1", y.clear(), 300);
        CHECK.equal("inside()", y.inside(), 0);
        CHECK.equal("latest()", y.latest(), 300);
    }

    private static void noneAtAll() {
        CHECK.equal("clear() of a new bench", new Stairflow().clear(), 0);
        Stairflow x = Benches.oneRoom(4);
        x.setRelease(1, 100);
        x.setRelease(0, 100);
        CHECK.equal("clear() with nobody inside and a release ahead", x.clear(), 0);
        CHECK.equal("now()", x.now(), 0);
        x.setRelease(1, 0);
        x.come(1, 4);
        x.step(3);
        CHECK.equal("clear() when all have gone", x.clear(), 0);
        CHECK.equal("now()", x.now(), 3);
        CHECK.equal("waited()", x.waited(), 0);
        x.come(1, 1);
        CHECK.equal("clear() with one person inside", x.clear(), 1);
    }

    private static void lastOneIncluded() {
        Stairflow x = Benches.row(2, 3);
        x.addPlace(30);
        x.setRelease(2, 4);
        x.come(2, 7);
        x.step(2);
        CHECK.equal("clear() at 2", x.clear(), 6);
        CHECK.equal("now(), the last person's step included", x.now(), 8);
        CHECK.equal("latest()", x.latest(), 8);
        x.come(2, 7);
        x.come(3, 1);
        CHECK.equal("clear() at 8, the step without a move included", x.clear(), 4 + 1);
        CHECK.equal("now()", x.now(), 13);
        CHECK.equal("latest()", x.latest(), 12);
    }

    private static void time() {
        Stairflow x = new Stairflow();
        CHECK.equal("now() of a new bench", x.now(), 0);
        x.step(1);
        CHECK.equal("now() behind step(1)", x.now(), 1);
        x.step(50);
        CHECK.equal("now() behind step(50)", x.now(), 51);
        CHECK.throwsOnly(IllegalArgumentException.class, "step(51)", () -> x.step(51));
        CHECK.equal("now() behind a refused step", x.now(), 51);
        x.addPlace(1);
        x.come(1, 1);
        x.setRelease(1, 1000);
        x.clear();
        CHECK.equal("now() behind clear() with 300 steps", x.now(), 351);
        for (int i = 0; i < 100; i++) {
            x.step(50);
        }
        CHECK.equal("now() far behind every release", x.now(), 5351);
    }
}
