import java.util.NoSuchElementException;

/** The section 'Terms', sentence by sentence; what a step does is in StepTermsTest. */
public final class TermsTest {
    private static final Check CHECK = new Check();

    public static void main(String[] args) {
        CHECK.sentence("Nobody is lost or doubled.", TermsTest::nobodyIsLost);
        CHECK.sentence("An object is used for at most 512 calls after it has been made", TermsTest::lastCall);
        CHECK.sentence("Places are numbered from 0; the place 0 is the outside, which is there from the beginning",
            TermsTest::placesFrom0);
        CHECK.sentence("and has room for all", TermsTest::roomForAll);
        CHECK.sentence("At most 10 others can be added", TermsTest::atMost10Others);
        CHECK.sentence("each with a room of 1 to 30 persons", TermsTest::rooms);
        CHECK.sentence("Doors are numbered from 0", TermsTest::doorsFrom0);
        CHECK.sentence("there are at most 16", TermsTest::atMost16Doors);
        CHECK.sentence("A door joins two different places", TermsTest::differentPlaces);
        CHECK.sentence("lets a number of persons through in a step, its flow of 1 to 9", TermsTest::flows);
        CHECK.sentence("a share of 1 to 5", TermsTest::shares);
        CHECK.sentence("it is open or closed, at first open", TermsTest::atFirstOpen);
        CHECK.sentence("Time is 0 at first.", TermsTest::timeIs0);
        CHECK.sentence("The distance of a place is the least number of open doors on a way from it to the outside.",
            TermsTest::leastNumberOfOpenDoors);
        CHECK.sentence("The door of a place, if it has a distance of 1 or more", TermsTest::distance1OrMore);
        CHECK.sentence("is the open door with the lowest number", TermsTest::lowestOpenDoor);
        CHECK.sentence("that joins it with a place whose distance is less by 1", TermsTest::lessBy1);
        CHECK.sentence("A place without a distance has no door.", TermsTest::noDistanceNoDoor);
        CHECK.end();
    }

    /** Crowds merge, wait, are closed in and come back; behind each step all are counted. */
    private static void nobodyIsLost() {
        for (int room : new int[] {1, 3, 12, 30}) {
            Stairflow x = Benches.merging(room, 1, 5, 2);
            x.addDoor(2, 3, 4, 1);
            x.addDoor(4, 0, 1, 1);
            int all = 0;
            for (int round = 0; round < 4; round++) {
                for (int place = 2; place <= 4; place++) {
                    all += 25;
                    CHECK.equal("come(" + place + ", 25)", x.come(place, 25), 25);
                }
                x.setDoor(0, round % 3 != 1);
                x.setDoor(4, round % 4 != 2);
                x.setRelease(2, x.now() + round % 2);
                for (int i = 0; i < 6; i++) {
                    x.step(1);
                    checkAllCounted(x, all);
                }
                x.setDoor(0, true);
                x.clear();
                CHECK.equal("people(0) behind clear()", x.people(0), all);
            }
        }
    }

    private static void checkAllCounted(Stairflow x, int all) {
        int sum = 0;
        for (int place = 0; place < 5; place++) {
            CHECK.holds("nobody is taken from an empty place", x.people(place) >= 0);
            sum += x.people(place);
        }
        CHECK.equal("all places together at " + x.now(), sum, all);
        CHECK.equal("outside and inside at " + x.now(), x.people(0) + x.inside(), all);
    }

    /** 3 calls build, 508 let a person come and go, and the last one looks; then the longest wait there can be. */
    private static void lastCall() {
        Stairflow x = new Stairflow();
        x.addPlace(1);
        x.addDoor(1, 0, 1, 1);
        x.setRelease(0, 1000);
        for (int i = 1; i <= 254; i++) {
            CHECK.equal("come(1, 1), for time " + i, x.come(1, 1), 1);
            CHECK.equal("step(50), for time " + i, x.step(50), 1);
        }
        CHECK.equal("now() as the 512th call", x.now(), 254 * 50);

        Stairflow y = Benches.places(1);
        y.come(1, 30);
        for (int i = 1; i <= 509; i++) {
            CHECK.equal("step(50) with the doors missing", y.step(50), 0);
        }
        CHECK.equal("waited() as the 512th call", y.waited(), 509 * 50 * 30);
    }

    private static void placesFrom0() {
        Stairflow x = new Stairflow();
        CHECK.equal("people(0)", x.people(0), 0);
        CHECK.equal("distance(0)", x.distance(0), 0);
        CHECK.throwsOnly(IndexOutOfBoundsException.class, "people(-1)", () -> x.people(-1));
        CHECK.throwsOnly(IndexOutOfBoundsException.class, "people(1)", () -> x.people(1));
        CHECK.equal("the first addPlace(30)", x.addPlace(30), 1);
        CHECK.equal("people(1)", x.people(1), 0);
    }

    /** More than any room could hold: 300 people at once, and 4,500 in all. */
    private static void roomForAll() {
        Stairflow x = Benches.places(10);
        for (int place = 1; place <= 10; place++) {
            x.addDoor(place, 0, 9, 1);
        }
        for (int round = 1; round <= 15; round++) {
            for (int place = 1; place <= 10; place++) {
                x.come(place, 30);
            }
            CHECK.equal("step(4)", x.step(4), 300);
            CHECK.equal("people(0)", x.people(0), 300 * round);
        }
    }

    private static void atMost10Others() {
        Stairflow x = new Stairflow();
        for (int place = 1; place <= 10; place++) {
            CHECK.equal("addPlace(7)", x.addPlace(7), place);
        }
        CHECK.equal("come(10, 7)", x.come(10, 7), 7);
        CHECK.refuses(() -> Benches.places(10), IllegalStateException.class, "an eleventh addPlace(7)",
            y -> y.addPlace(7));
    }

    /** The room counts for those who come and for those who walk in. */
    private static void rooms() {
        for (int room : new int[] {1, 2, 29, 30}) {
            Stairflow x = Benches.merging(room, 5);
            x.setRelease(1, 1000);
            x.come(2, 30);
            for (int i = 1; i <= 5; i++) {
                x.step(1);
                CHECK.equal("people(1) in the room of " + room, x.people(1), Math.min(room, 9 * i));
            }
            CHECK.throwsOnly(IllegalStateException.class, "come(1, 1) into the full room", () -> x.come(1, 1));
        }
        CHECK.throwsOnly(IllegalArgumentException.class, "a room of 0", () -> new Stairflow().addPlace(0));
        CHECK.throwsOnly(IllegalArgumentException.class, "a room of 31", () -> new Stairflow().addPlace(31));
    }

    private static void doorsFrom0() {
        Stairflow x = Benches.places(1);
        CHECK.throwsOnly(IndexOutOfBoundsException.class, "passed(0) without doors", () -> x.passed(0));
        CHECK.equal("the first addDoor", x.addDoor(0, 1, 1, 1), 0);
        CHECK.equal("the second addDoor", x.addDoor(0, 1, 1, 1), 1);
        CHECK.equal("passed(0)", x.passed(0), 0);
        CHECK.equal("passed(1)", x.passed(1), 0);
        CHECK.throwsOnly(IndexOutOfBoundsException.class, "passed(-1)", () -> x.passed(-1));
        CHECK.throwsOnly(IndexOutOfBoundsException.class, "passed(2)", () -> x.passed(2));
    }

    private static void atMost16Doors() {
        Stairflow x = Benches.places(1);
        for (int door = 0; door < 16; door++) {
            CHECK.equal("addDoor(1, 0, 2, 3)", x.addDoor(1, 0, 2, 3), door);
        }
        CHECK.holds("the sixteenth door is open", x.setDoor(15, false));
        CHECK.refuses(Benches::withAllDoors, IllegalStateException.class, "a seventeenth addDoor",
            y -> y.addDoor(1, 0, 2, 3));
    }

    private static void differentPlaces() {
        for (int place = 0; place <= 4; place++) {
            int same = place;
            CHECK.refuses(Benches::busy, IllegalArgumentException.class, "addDoor(" + same + ", " + same + ", 1, 1)",
                x -> x.addDoor(same, same, 1, 1));
        }
        CHECK.equal("addDoor(4, 3, 1, 1)", Benches.busy().addDoor(4, 3, 1, 1), 5);
        CHECK.equal("addDoor(3, 4, 1, 1)", Benches.busy().addDoor(3, 4, 1, 1), 5);
    }

    private static void flows() {
        for (int flow : new int[] {1, 2, 8, 9}) {
            Stairflow x = Benches.oneRoom(flow);
            x.come(1, 30);
            CHECK.equal("step(1) by a flow of " + flow, x.step(1), flow);
            CHECK.equal("step(2) by a flow of " + flow, x.step(2), 2 * flow);
        }
        CHECK.throwsOnly(IllegalArgumentException.class, "a flow of 0", () -> Benches.oneRoom(0));
        CHECK.throwsOnly(IllegalArgumentException.class, "a flow of 10", () -> Benches.oneRoom(10));
    }

    /** A room of 6 and a wish of 9 by each door: the lower door has its share, the other one what is left. */
    private static void shares() {
        for (int share = 1; share <= 5; share++) {
            Stairflow x = Benches.merging(6, share, 5);
            x.come(2, 30);
            x.come(3, 30);
            CHECK.equal("wouldMove(2) with a share of " + share, x.wouldMove(2), share);
            CHECK.equal("wouldMove(3) beside a share of " + share, x.wouldMove(3), 6 - share);
        }
        CHECK.throwsOnly(IllegalArgumentException.class, "a share of 0", () -> Benches.merging(6, 0));
        CHECK.throwsOnly(IllegalArgumentException.class, "a share of 6", () -> Benches.merging(6, 6));
    }

    private static void atFirstOpen() {
        Stairflow x = Benches.oneRoom(1);
        x.come(1, 2);
        CHECK.equal("step(1)", x.step(1), 1);
        CHECK.holds("setDoor(0, false): it was open at first", x.setDoor(0, false));
        CHECK.equal("step(1) when it is closed", x.step(1), 0);
    }

    private static void timeIs0() {
        Stairflow x = new Stairflow();
        CHECK.equal("now()", x.now(), 0);
        x.addPlace(1);
        x.addDoor(1, 0, 1, 1);
        x.come(1, 1);
        x.setRelease(1, 1);
        CHECK.equal("now() when nothing but building was done", x.now(), 0);
    }

    private static void leastNumberOfOpenDoors() {
        Stairflow x = Benches.ring();
        int[] due = {0, 1, 2, 2, 1};
        for (int place = 0; place < 5; place++) {
            CHECK.equal("distance(" + place + ") by the shorter way", x.distance(place), due[place]);
        }
        x.setDoor(4, false);
        for (int place = 0; place < 5; place++) {
            CHECK.equal("distance(" + place + ") by the way that is open", x.distance(place), place);
        }
        x.setDoor(1, false);
        CHECK.equal("distance(1)", x.distance(1), 1);
        for (int place = 2; place < 5; place++) {
            int lost = place;
            CHECK.throwsOnly(NoSuchElementException.class, "distance(" + lost + ")", () -> x.distance(lost));
        }
        x.setDoor(4, true);
        CHECK.equal("distance(2), the last of three", x.distance(2), 3);
    }

    private static void distance1OrMore() {
        Stairflow x = Benches.row(10, 1);
        CHECK.throwsOnly(NoSuchElementException.class, "door(0), at the distance 0", () -> x.door(0));
        for (int place = 1; place <= 10; place++) {
            CHECK.equal("door(" + place + "), at the distance " + place, x.door(place), place - 1);
        }
    }

    private static void lowestOpenDoor() {
        Stairflow x = Benches.places(2);
        x.addDoor(2, 1, 1, 1);
        for (int i = 0; i < 4; i++) {
            x.addDoor(i % 2 == 0 ? 1 : 0, i % 2 == 0 ? 0 : 1, 1, 1);
        }
        CHECK.equal("door(1)", x.door(1), 1);
        x.setDoor(1, false);
        CHECK.equal("door(1) with 1 closed", x.door(1), 2);
        x.setDoor(3, false);
        CHECK.equal("door(1) with 1 and 3 closed", x.door(1), 2);
        x.setDoor(2, false);
        CHECK.equal("door(1) with 1, 2 and 3 closed", x.door(1), 4);
        x.setDoor(3, true);
        CHECK.equal("door(1) with 1 and 2 closed", x.door(1), 3);
        x.setDoor(1, true);
        CHECK.equal("door(1) with 2 closed", x.door(1), 1);
        CHECK.equal("door(2)", x.door(2), 0);
    }

    /** Place 4 has doors to the distances 3, 2, 2 and 1, by rising numbers; its own distance is 2. */
    private static void lessBy1() {
        Stairflow x = Benches.places(5);
        x.addDoor(4, 5, 1, 1);
        x.addDoor(4, 2, 1, 1);
        x.addDoor(4, 3, 1, 1);
        x.addDoor(4, 1, 1, 1);
        x.addDoor(1, 0, 1, 1);
        x.addDoor(1, 2, 1, 1);
        x.addDoor(3, 1, 1, 1);
        CHECK.equal("distance(5)", x.distance(5), 3);
        CHECK.equal("distance(4)", x.distance(4), 2);
        CHECK.equal("door(4), not to a distance greater by 1 nor to the same", x.door(4), 3);
        CHECK.equal("door(1), not to a distance greater by 1", x.door(1), 4);
        x.setDoor(4, false);
        CHECK.throwsOnly(NoSuchElementException.class, "door(4), none of whose neighbours has a distance",
            () -> x.door(4));
    }

    private static void noDistanceNoDoor() {
        Stairflow x = Benches.row(3, 1);
        x.setDoor(1, false);
        CHECK.equal("door(1)", x.door(1), 0);
        CHECK.throwsOnly(NoSuchElementException.class, "door(2), its door to 3 is open", () -> x.door(2));
        CHECK.throwsOnly(NoSuchElementException.class, "door(3), its door to 2 is open", () -> x.door(3));
        CHECK.equal("wouldMove(2)", x.wouldMove(2), 0);
        x.come(3, 5);
        CHECK.equal("step(5)", x.step(5), 0);
        CHECK.equal("people(3)", x.people(3), 5);
    }
}
