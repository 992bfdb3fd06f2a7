import java.util.NoSuchElementException;

/** Promises 12 to 16, sentence by sentence: people, inside, latest, passed, waited. */
public final class PeopleTest {
    private static final Check CHECK = new Check();
    private static final Class<IndexOutOfBoundsException> INDEX = IndexOutOfBoundsException.class;

    public static void main(String[] args) {
        CHECK.sentence("12: Returns how many people are at a place", PeopleTest::atAPlace);
        CHECK.sentence("12: at the outside all who have reached it", PeopleTest::atTheOutside);
        CHECK.sentence("12: IndexOutOfBoundsException if there is no such place", PeopleTest::noSuchPlace);
        CHECK.sentence("13: Returns how many people are inside.", PeopleTest::inside);
        CHECK.sentence("14: Returns the time at which the latest one reached the outside", PeopleTest::latest);
        CHECK.sentence("14: the time behind that step", PeopleTest::timeBehindThatStep);
        CHECK.sentence("14: NoSuchElementException if nobody has reached it", PeopleTest::nobodyHasReachedIt);
        CHECK.sentence("15: Returns how many persons have gone through a door.", PeopleTest::goneThrough);
        CHECK.sentence("15: Returns the number of persons, either way.", PeopleTest::eitherWay);
        CHECK.sentence("15: IndexOutOfBoundsException if there is no such door", PeopleTest::noSuchDoor);
        CHECK.sentence("16: Returns the sum, over all steps so far", PeopleTest::sumOverAllSteps);
        CHECK.sentence("16: of the number of people who were inside behind the step", PeopleTest::insideBehindTheStep);
        CHECK.end();
    }

    private static void atAPlace() {
        Stairflow x = new Stairflow();
        x.addPlace(30);
        x.addPlace(8);
        x.addDoor(1, 0, 2, 1);
        x.addDoor(2, 1, 3, 1);
        CHECK.equal("people(1) of an empty place", x.people(1), 0);
        x.come(2, 7);
        x.come(1, 1);
        int[][] due = {{0, 1, 7}, {1, 3, 4}, {3, 4, 1}, {5, 3, 0}, {7, 1, 0}, {8, 0, 0}, {8, 0, 0}};
        for (int[] row : due) {
            for (int place = 0; place < 3; place++) {
                CHECK.equal("people(" + place + ") at " + x.now(), x.people(place), row[place]);
            }
            x.step(1);
        }
        x.come(2, 8);
        x.come(1, 30);
        CHECK.equal("people(2) of a full place", x.people(2), 8);
        CHECK.equal("people(1) of a full place", x.people(1), 30);
    }

    private static void atTheOutside() {
        Stairflow x = Benches.oneRoom(9);
        CHECK.equal("people(0) of a new bench", x.people(0), 0);
        for (int i = 1; i <= 100; i++) {
            x.come(1, 30);
            CHECK.equal("people(0) ahead of the steps", x.people(0), 30 * (i - 1));
            x.step(4);
            CHECK.equal("people(0) behind the steps", x.people(0), 30 * i);
        }
    }

    private static void noSuchPlace() {
        for (int place : new int[] {-1, 5, 10, 11, Integer.MIN_VALUE, Integer.MAX_VALUE}) {
            CHECK.refuses(Benches::busy, INDEX, "people(" + place + ")", x -> x.people(place));
        }
        CHECK.refuses(Stairflow::new, INDEX, "people(1) on a new bench", x -> x.people(1));
        CHECK.refuses(Benches::withAllPlaces, INDEX, "people(11)", x -> x.people(11));
        CHECK.equal("people(10), the last of all places", Benches.withAllPlaces().people(10), 10);
        CHECK.equal("people(4), the last place", Benches.busy().people(4), 2);
    }

    private static void inside() {
        Stairflow x = Benches.withAllPlaces();
        CHECK.equal("inside() of a new bench", new Stairflow().inside(), 0);
        CHECK.equal("inside()", x.inside(), 55);
        int left = 55;
        for (int leaving = 10; leaving >= 1; leaving--) {
            x.step(1);
            left -= leaving;
            CHECK.equal("inside() at " + x.now(), x.inside(), left);
        }
        CHECK.equal("inside() when all have gone", x.inside(), 0);
        x.setDoor(9, false);
        x.come(10, 30);
        CHECK.equal("inside() with the trapped ones", x.inside(), 30);
        for (int place = 1; place <= 9; place++) {
            x.come(place, 30);
        }
        CHECK.equal("inside() when all is full", x.inside(), 300);
    }

    private static void latest() {
        Stairflow x = Benches.row(2, 2);
        x.come(2, 3);
        x.step(2);
        CHECK.equal("latest() at 2", x.latest(), 2);
        x.step(1);
        CHECK.equal("latest() at 3", x.latest(), 3);
        x.step(50);
        CHECK.equal("latest() at 53: nobody came after 3", x.latest(), 3);
        x.come(2, 1);
        x.step(1);
        CHECK.equal("latest() at 54: a move inside does not count", x.latest(), 3);
        x.step(50);
        CHECK.equal("latest() at 104", x.latest(), 55);
        x.setDoor(0, false);
        x.come(1, 1);
        x.clear();
        CHECK.equal("latest() with one person trapped", x.latest(), 55);
    }

    private static void timeBehindThatStep() {
        Stairflow x = Benches.oneRoom(1);
        x.come(1, 1);
        x.step(1);
        CHECK.equal("latest(): the step began at 0", x.latest(), 1);
        x.come(1, 1);
        x.setRelease(1, 299);
        x.clear();
        CHECK.equal("latest(): the step began at 299", x.latest(), 300);
        x.come(1, 1);
        x.setRelease(1, 302);
        x.step(50);
        CHECK.equal("latest(): the step began at 302, within step(50)", x.latest(), 303);
    }

    private static void nobodyHasReachedIt() {
        CHECK.refuses(Stairflow::new, NoSuchElementException.class, "latest()", Stairflow::latest);
        CHECK.refuses(() -> stillInside(0), NoSuchElementException.class, "latest() at 0", Stairflow::latest);
        CHECK.refuses(() -> stillInside(1), NoSuchElementException.class, "latest() at 1", Stairflow::latest);
        Stairflow x = stillInside(2);
        CHECK.equal("latest() at 2", x.latest(), 2);
    }

    /** Two people on a way of two doors, behind so many steps. */
    private static Stairflow stillInside(int steps) {
        Stairflow x = Benches.row(2, 2);
        x.come(2, 2);
        for (int i = 0; i < steps; i++) {
            x.step(1);
        }
        return x;
    }

    private static void goneThrough() {
        Stairflow x = Benches.row(2, 2);
        x.addDoor(2, 1, 9, 1);
        x.come(2, 3);
        CHECK.equal("passed(0) at first", x.passed(0), 0);
        int[][] due = {{0, 2}, {2, 3}, {3, 3}, {3, 3}};
        for (int[] row : due) {
            x.step(1);
            CHECK.equal("passed(0) at " + x.now(), x.passed(0), row[0]);
            CHECK.equal("passed(1) at " + x.now(), x.passed(1), row[1]);
            CHECK.equal("passed(2), which is no place's door", x.passed(2), 0);
        }
        x.setDoor(1, false);
        x.come(2, 4);
        x.step(1);
        CHECK.equal("passed(1), closed", x.passed(1), 3);
        CHECK.equal("passed(2), which is the way now", x.passed(2), 4);
    }

    /** The door 1 between the places 1 and 2 is used first from 2 to 1, and then from 1 to 2. */
    private static void eitherWay() {
        Stairflow x = Benches.row(2, 3);
        x.addDoor(0, 2, 1, 1);
        x.setDoor(2, false);
        x.come(2, 5);
        x.step(1);
        CHECK.equal("passed(1), one way", x.passed(1), 3);
        x.setDoor(2, true);
        x.setDoor(0, false);
        x.step(1);
        CHECK.equal("passed(1), either way", x.passed(1), 6);
        CHECK.equal("passed(2), built from the outside to 2", x.passed(2), 1);
        CHECK.equal("passed(0)", x.passed(0), 0);
    }

    private static void noSuchDoor() {
        for (int door : new int[] {-1, 5, 15, 16, Integer.MIN_VALUE, Integer.MAX_VALUE}) {
            CHECK.refuses(Benches::busy, INDEX, "passed(" + door + ")", x -> x.passed(door));
        }
        CHECK.refuses(Stairflow::new, INDEX, "passed(0) on a new bench", x -> x.passed(0));
        CHECK.refuses(Benches::withAllDoors, INDEX, "passed(16)", x -> x.passed(16));
        CHECK.equal("passed(15), the last of all doors", Benches.withAllDoors().passed(15), 0);
        CHECK.equal("passed(4), the last door", Benches.busy().passed(4), 0);
    }

    private static void sumOverAllSteps() {
        Stairflow x = Benches.oneRoom(2);
        CHECK.equal("waited() of a new bench", x.waited(), 0);
        x.step(5);
        CHECK.equal("waited() behind steps with nobody inside", x.waited(), 0);
        x.come(1, 5);
        CHECK.equal("waited() ahead of the step", x.waited(), 0);
        x.step(1);
        CHECK.equal("waited() behind one step", x.waited(), 3);
        x.step(1);
        CHECK.equal("waited() behind two steps", x.waited(), 3 + 1);
        x.step(50);
        CHECK.equal("waited() behind all", x.waited(), 3 + 1);
        x.come(1, 6);
        x.clear();
        CHECK.equal("waited() behind clear()", x.waited(), 4 + 4 + 2);
        Stairflow y = Benches.places(10);
        for (int place = 1; place <= 10; place++) {
            y.come(place, 30);
        }
        for (int i = 1; i <= 400; i++) {
            y.step(50);
        }
        CHECK.equal("waited() of 300 people over 20000 steps", y.waited(), 300 * 20000);
    }

    private static void insideBehindTheStep() {
        Stairflow x = Benches.row(2, 9);
        x.addPlace(30);
        x.come(1, 9);
        x.step(1);
        CHECK.equal("waited(): who goes out in the step does not count", x.waited(), 0);
        x.come(2, 9);
        x.step(1);
        CHECK.equal("waited(): who moves inside counts", x.waited(), 9);
        x.step(1);
        CHECK.equal("waited(): who goes out then does not", x.waited(), 9);
        x.come(3, 4);
        x.step(2);
        CHECK.equal("waited(): who is trapped counts", x.waited(), 9 + 8);
        x.come(1, 1);
        x.setRelease(1, 1000);
        x.step(1);
        CHECK.equal("waited(): who waits for the release counts", x.waited(), 17 + 5);
    }
}
