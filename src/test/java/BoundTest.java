/** Promise 21, sentence by sentence: the bound. */
public final class BoundTest {
    private static final Check CHECK = new Check();

    public static void main(String[] args) {
        CHECK.sentence("Beside the steps there is a bound below which no clearing time can be",
            BoundTest::noClearingTimeBelow);
        CHECK.sentence("found by the flows over all doors between two distances", BoundTest::flowsOverAllDoors);
        CHECK.sentence("21: a number of steps below which the bench cannot be cleared", BoundTest::cannotBeCleared);
        CHECK.sentence("21: For each distance d of 1 or more", BoundTest::eachDistance);
        CHECK.sentence("21: P be the number of people at places with this distance or a greater one",
            BoundTest::thisDistanceOrAGreaterOne);
        CHECK.sentence("21: F the sum of the flows of all open doors", BoundTest::allOpenDoors);
        CHECK.sentence("21: that join a place with the distance d with one with the distance d - 1",
            BoundTest::joinTheTwoDistances);
        CHECK.sentence("21: If P is not 0", BoundTest::emptyDistancesDoNotCount);
        CHECK.sentence("21: d - 1 plus the quotient of P by F, rounded up", BoundTest::roundedUp);
        CHECK.sentence("21: at least .. steps are needed", BoundTest::needed);
        CHECK.sentence("21: The greatest of these numbers is returned.", BoundTest::greatest);
        CHECK.sentence("21: 0 if nobody is inside", BoundTest::nobodyInside);
        CHECK.sentence("21: IllegalStateException if somebody is trapped", BoundTest::somebodyTrapped);
        CHECK.end();
    }

    /** Many benches, each cleared in the end; some are cleared in just as many steps as the bound says. */
    private static void noClearingTimeBelow() {
        int reached = 0;
        for (int number = 0; number < 500; number++) {
            Stairflow x = Benches.someBench(number);
            int bound = x.bound();
            int steps = x.clear() + x.clear() + x.clear();
            CHECK.equal("inside() of bench " + number, x.inside(), 0);
            CHECK.holds("the bound " + bound + " is at most the clearing time " + steps, bound <= steps);
            reached += bound == steps ? 1 : 0;
        }
        CHECK.holds("benches with just that clearing time", reached >= 20);
    }

    /** A door that is no place's own counts; rooms, shares and releases do not. */
    private static void flowsOverAllDoors() {
        for (int doors = 1; doors <= 15; doors++) {
            Stairflow x = new Stairflow();
            x.addPlace(1);
            x.addPlace(30);
            x.setRelease(1, 1000);
            x.setRelease(2, 500);
            x.addDoor(1, 0, 9, 1);
            for (int i = 0; i < doors; i++) {
                x.addDoor(1 + i % 2, 2 - i % 2, 1, 1 + i % 5);
            }
            x.come(2, 30);
            CHECK.equal("bound() of 30 by " + doors + " doors", x.bound(), Math.max(4, 1 + (29 + doors) / doors));
            CHECK.equal("passed(2)", doors > 1 ? x.passed(2) : 0, 0);
        }
    }

    /** In a row, while nobody else comes, each step takes one from the bound, until nobody is inside. */
    private static void needed() {
        for (int people = 1; people <= 30; people++) {
            Stairflow x = Benches.row(5, 3);
            x.come(5, people);
            for (int due = 4 + (people + 2) / 3; due > 0; due--) {
                CHECK.equal("bound() at " + x.now(), x.bound(), due);
                CHECK.holds("somebody is inside", x.inside() > 0);
                x.step(1);
            }
            CHECK.equal("inside()", x.inside(), 0);
        }
    }

    /** The bound is reached here, and with rooms and releases it is not: these do not count. */
    private static void cannotBeCleared() {
        for (int people = 1; people <= 30; people++) {
            Stairflow x = Benches.row(3, 4);
            x.come(3, people);
            int bound = x.bound();
            CHECK.equal("clear() of " + people, x.clear(), bound);
        }
        Stairflow y = new Stairflow();
        y.addPlace(1);
        y.addPlace(30);
        y.addDoor(1, 0, 9, 1);
        y.addDoor(2, 1, 9, 1);
        y.come(2, 18);
        y.setRelease(2, 30);
        CHECK.equal("bound()", y.bound(), 3);
        CHECK.equal("clear()", y.clear(), 30 + 36);
    }

    /** One person at each distance there can be, and the bound given by the one inside it. */
    private static void eachDistance() {
        for (int place = 1; place <= 10; place++) {
            Stairflow x = Benches.row(10, 9);
            x.come(place, 1);
            CHECK.equal("bound() of one person at the distance " + place, x.bound(), place);
            x.come(place, 9);
            CHECK.equal("bound() of ten people at the distance " + place, x.bound(), place + 1);
            x.step(1);
            CHECK.equal("bound() behind a step", x.bound(), place);
        }
        Stairflow y = Benches.oneRoom(1);
        y.come(1, 30);
        CHECK.equal("bound() of the distance 1 alone", y.bound(), 30);
    }

    private static void thisDistanceOrAGreaterOne() {
        Stairflow x = Benches.row(3, 9);
        x.addPlace(30);
        x.addDoor(4, 0, 1, 1);
        x.addDoor(4, 0, 1, 1);
        x.setDoor(4, false);
        x.setDoor(0, false);
        x.addDoor(1, 0, 1, 1);
        CHECK.equal("bound() with nobody", x.bound(), 0);
        x.come(3, 6);
        CHECK.equal("bound(): those at 3 count for the distance 1", x.bound(), 3);
        x.come(2, 4);
        CHECK.equal("bound(): those at 2 count for the distance 1", x.bound(), 5);
        x.come(1, 10);
        CHECK.equal("bound(): those at 1 count for the distance 1", x.bound(), 10);
        x.come(4, 2);
        CHECK.equal("bound(): those at 4 count for the distance 1", x.bound(), 11);
        Stairflow y = Benches.row(2, 1);
        y.addDoor(1, 0, 9, 1);
        y.come(1, 30);
        y.come(2, 1);
        CHECK.equal("bound(): those at the distance 1 do not count for the distance 2", y.bound(), 4);
    }

    private static void allOpenDoors() {
        Stairflow x = Benches.places(2);
        x.addDoor(0, 1, 1, 1);
        x.come(1, 30);
        CHECK.equal("bound() by one door", x.bound(), 30);
        x.addDoor(1, 0, 2, 1);
        CHECK.equal("bound() by two doors of the same place", x.bound(), 10);
        x.addDoor(2, 0, 3, 1);
        CHECK.equal("bound() by a door of another place too", x.bound(), 5);
        x.setDoor(1, false);
        CHECK.equal("bound() with a door closed", x.bound(), 8);
        x.setDoor(1, true);
        CHECK.equal("bound() with it opened", x.bound(), 5);
        Stairflow y = Benches.withAllDoors();
        CHECK.equal("bound() of 23 people by 16 doors with a flow of 2", y.bound(), 1);
        y.come(1, 10);
        CHECK.equal("bound() of 33 people by 16 doors with a flow of 2", y.bound(), 2);
    }

    /** Doors within a distance add nothing; a door counts for the greater one of its two distances alone. */
    private static void joinTheTwoDistances() {
        Stairflow x = Benches.places(4);
        x.addDoor(1, 0, 2, 1);
        x.addDoor(2, 0, 1, 1);
        x.come(1, 30);
        CHECK.equal("bound()", x.bound(), 10);
        x.addDoor(2, 1, 9, 1);
        CHECK.equal("bound(): a door within the distance 1 adds nothing", x.bound(), 10);
        x.addDoor(3, 1, 9, 1);
        x.addDoor(2, 3, 3, 1);
        CHECK.equal("bound(): doors between 2 and 1 add nothing to 1", x.bound(), 10);
        x.addDoor(4, 3, 5, 1);
        x.setRelease(1, 1000);
        x.setDoor(3, false);
        x.come(3, 28);
        CHECK.equal("bound() of 58 by 3, of 28 by 3", x.bound(), 20);
        x.step(5);
        CHECK.equal("people(0)", x.people(0), 4);
        x.come(4, 30);
        CHECK.equal("bound() of 84 by 3 at the distance 1", x.bound(), 28);
        for (boolean turned : new boolean[] {false, true}) {
            Stairflow y = Benches.places(5);
            join(y, turned, 1, 0, 9);
            join(y, turned, 2, 0, 9);
            join(y, turned, 1, 2, 9);
            join(y, turned, 3, 1, 1);
            join(y, turned, 4, 1, 1);
            join(y, turned, 3, 4, 9);
            join(y, turned, 5, 4, 9);
            y.come(3, 20);
            CHECK.equal("bound() of 20 by 2: doors within 1 or 2, or between other distances, add nothing",
                y.bound(), 1 + 10);
        }
    }

    private static void join(Stairflow x, boolean turned, int one, int other, int flow) {
        x.addDoor(turned ? other : one, turned ? one : other, flow, 1);
    }

    private static void emptyDistancesDoNotCount() {
        Stairflow x = Benches.row(10, 9);
        CHECK.equal("bound() with nobody inside, ten distances", x.bound(), 0);
        x.come(2, 1);
        CHECK.equal("bound() of one person at the distance 2 of 10", x.bound(), 2);
        x.come(1, 9);
        CHECK.equal("bound() of ten people at the distances 1 and 2", x.bound(), 2);
        x.come(10, 1);
        CHECK.equal("bound() of one person at the distance 10 too", x.bound(), 10);
    }

    private static void roundedUp() {
        for (int flow = 1; flow <= 9; flow++) {
            for (int people = 1; people <= 30; people++) {
                int quotient = people / flow + (people % flow > 0 ? 1 : 0);
                Stairflow x = Benches.oneRoom(flow);
                x.come(1, people);
                CHECK.equal("bound() of " + people + " by " + flow, x.bound(), quotient);
                Stairflow y = Benches.row(4, flow);
                y.come(4, people);
                CHECK.equal("bound() of " + people + " by " + flow + " at 4", y.bound(), 3 + quotient);
            }
        }
    }

    private static void greatest() {
        Stairflow x = Benches.places(3);
        x.addDoor(1, 0, 9, 1);
        x.addDoor(2, 1, 2, 1);
        x.addDoor(3, 2, 9, 1);
        x.come(3, 9);
        CHECK.equal("bound() of the middle distance", x.bound(), 1 + 5);
        x.come(2, 2);
        CHECK.equal("bound() of the middle distance", x.bound(), 1 + 6);
        x.come(1, 30);
        CHECK.equal("bound() of the middle distance", x.bound(), 1 + 6);
        x.setDoor(1, false);
        x.addDoor(1, 2, 9, 1);
        CHECK.equal("bound() of the least distance", x.bound(), 5);
        x.step(50);
        x.come(3, 1);
        CHECK.equal("bound() of the greatest distance", x.bound(), 3);
    }

    private static void nobodyInside() {
        Stairflow x = new Stairflow();
        CHECK.equal("bound() of a new bench", x.bound(), 0);
        x.addPlace(30);
        CHECK.equal("bound() with an empty place that has no way", x.bound(), 0);
        x.addDoor(0, 1, 1, 1);
        CHECK.equal("bound() with an empty place that has a way", x.bound(), 0);
        x.come(1, 3);
        CHECK.equal("bound() of three", x.bound(), 3);
        x.clear();
        CHECK.equal("bound() when all are outside", x.bound(), 0);
        x.setDoor(0, false);
        CHECK.equal("bound() when all are outside and the door is closed", x.bound(), 0);
        CHECK.equal("bound() of ten empty places in a row", Benches.row(10, 9).bound(), 0);
    }

    private static void somebodyTrapped() {
        CHECK.refuses(() -> twoRooms(1), IllegalStateException.class, "bound() with one trapped", Stairflow::bound);
        CHECK.refuses(() -> twoRooms(30), IllegalStateException.class, "bound() with 30 trapped", Stairflow::bound);
        Stairflow x = twoRooms(0);
        CHECK.equal("bound() with an empty place without a way", x.bound(), 3);
        x.come(2, 1);
        x.addDoor(1, 2, 1, 1);
        CHECK.equal("bound() with a way for all", x.bound(), 4);
        x.setDoor(0, false);
        CHECK.throwsOnly(IllegalStateException.class, "bound() with all trapped", x::bound);
        x.setDoor(0, true);
        CHECK.equal("bound() with the door opened", x.bound(), 4);
    }

    /** Place 1 has 3 people and a door out, place 2 has no door. */
    private static Stairflow twoRooms(int trapped) {
        Stairflow x = Benches.places(2);
        x.addDoor(0, 1, 1, 1);
        x.come(1, 3);
        if (trapped > 0) {
            x.come(2, trapped);
        }
        return x;
    }
}
