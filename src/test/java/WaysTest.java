import java.util.NoSuchElementException;

/** Promises 17 to 20, sentence by sentence: distance, door, trapped, wouldMove. */
public final class WaysTest {
    private static final Check CHECK = new Check();
    private static final Class<IndexOutOfBoundsException> INDEX = IndexOutOfBoundsException.class;
    private static final Class<NoSuchElementException> ELEMENT = NoSuchElementException.class;
    private static final int[] NO_PLACES = {-1, 5, 10, 11, Integer.MIN_VALUE, Integer.MAX_VALUE};

    public static void main(String[] args) {
        CHECK.sentence("17: Returns the distance of a place.", WaysTest::distance);
        CHECK.sentence("17: 0 for the outside", WaysTest::distanceOfTheOutside);
        CHECK.sentence("17: IndexOutOfBoundsException if there is no such place", WaysTest::distanceWithoutPlace);
        CHECK.sentence("17: NoSuchElementException if there is no open way", WaysTest::noOpenWay);
        CHECK.sentence("18: Returns the door of a place.", WaysTest::door);
        CHECK.sentence("18: Returns the number of the door. (the last one)", WaysTest::lastDoor);
        CHECK.sentence("18: IndexOutOfBoundsException if there is no such place", WaysTest::doorWithoutPlace);
        CHECK.sentence("18: NoSuchElementException if it has none", WaysTest::noDoor);
        CHECK.sentence("19: Returns how many people are at places without an open way to the outside.",
            WaysTest::trapped);
        CHECK.sentence("20: Returns how many persons would go by the door of a place in the next step.",
            WaysTest::wouldMove);
        CHECK.sentence("20: Returns the number of persons (it moves nobody)", WaysTest::wouldMoveMovesNobody);
        CHECK.sentence("20: 0 if it has no door", WaysTest::wouldMoveWithoutDoor);
        CHECK.sentence("20: IndexOutOfBoundsException if there is no such place", WaysTest::wouldMoveWithoutPlace);
        CHECK.end();
    }

    /** The longest way there can be, its doors set the way that is worst for a search by rising numbers. */
    private static void distance() {
        for (boolean rising : new boolean[] {true, false}) {
            Stairflow x = Benches.places(10);
            for (int i = 1; i <= 10; i++) {
                int place = rising ? i : 11 - i;
                x.addDoor(place, place - 1, 1, 1);
            }
            for (int place = 1; place <= 10; place++) {
                CHECK.equal("distance(" + place + ")", x.distance(place), place);
            }
            x.addDoor(0, 10, 1, 1);
            for (int place = 1; place <= 10; place++) {
                CHECK.equal("distance(" + place + ") in the ring", x.distance(place), Math.min(place, 11 - place));
            }
        }
    }

    private static void distanceOfTheOutside() {
        Stairflow x = new Stairflow();
        CHECK.equal("distance(0) of a new bench", x.distance(0), 0);
        Stairflow y = Benches.oneRoom(1);
        CHECK.equal("distance(0) with a door", y.distance(0), 0);
        y.setDoor(0, false);
        CHECK.equal("distance(0) with its door closed", y.distance(0), 0);
    }

    private static void distanceWithoutPlace() {
        for (int place : NO_PLACES) {
            CHECK.refuses(Benches::busy, INDEX, "distance(" + place + ")", x -> x.distance(place));
        }
        CHECK.refuses(Stairflow::new, INDEX, "distance(1) on a new bench", x -> x.distance(1));
        CHECK.refuses(Benches::withAllPlaces, INDEX, "distance(11)", x -> x.distance(11));
        CHECK.equal("distance(10), the last of all places", Benches.withAllPlaces().distance(10), 1);
    }

    private static void noOpenWay() {
        CHECK.refuses(() -> Benches.places(1), ELEMENT, "distance(1) without doors", x -> x.distance(1));
        CHECK.refuses(WaysTest::cutRow, ELEMENT, "distance(4), whose own door is open", x -> x.distance(4));
        CHECK.refuses(WaysTest::cutRow, ELEMENT, "distance(3), whose own door is closed", x -> x.distance(3));
        Stairflow x = cutRow();
        CHECK.equal("distance(2), ahead of the closed door", x.distance(2), 2);
        x.setDoor(2, true);
        CHECK.equal("distance(4), opened", x.distance(4), 4);
        x.addPlace(1);
        CHECK.throwsOnly(ELEMENT, "distance(5) of a new place", () -> x.distance(5));
        x.addDoor(5, 0, 1, 1);
        CHECK.equal("distance(5) with a new door", x.distance(5), 1);
    }

    /** A row of four with the door from 3 to 2 closed. */
    private static Stairflow cutRow() {
        Stairflow x = Benches.row(4, 2);
        for (int place = 1; place <= 4; place++) {
            x.come(place, place);
        }
        x.setDoor(2, false);
        return x;
    }

    private static void door() {
        Stairflow x = Benches.places(4);
        x.addDoor(1, 2, 1, 1);
        x.addDoor(4, 3, 1, 1);
        x.addDoor(4, 2, 1, 1);
        x.addDoor(4, 1, 1, 1);
        x.addDoor(0, 2, 1, 1);
        x.addDoor(2, 0, 1, 1);
        x.addDoor(1, 0, 1, 1);
        CHECK.equal("door(1): not door 0, which leads to the same distance", x.door(1), 6);
        CHECK.equal("door(2)", x.door(2), 4);
        CHECK.equal("door(4): not door 1, which leads to a dead end", x.door(4), 2);
        CHECK.equal("door(3)", x.door(3), 1);
        x.setDoor(2, false);
        CHECK.equal("door(4)", x.door(4), 3);
        x.setDoor(4, false);
        CHECK.equal("door(2)", x.door(2), 5);
        x.setDoor(5, false);
        CHECK.equal("door(2), now by way of 1", x.door(2), 0);
        x.setDoor(2, true);
        CHECK.equal("door(4)", x.door(4), 3);
        x.setDoor(5, true);
        CHECK.equal("door(4)", x.door(4), 2);
    }

    private static void lastDoor() {
        Stairflow x = Benches.withAllDoors();
        CHECK.equal("door(1)", x.door(1), 0);
        CHECK.equal("door(2)", x.door(2), 1);
        for (int door = 0; door < 14; door++) {
            x.setDoor(door, false);
        }
        CHECK.equal("door(1) with two doors left", x.door(1), 14);
        CHECK.equal("door(2) with two doors left", x.door(2), 15);
    }

    private static void doorWithoutPlace() {
        for (int place : NO_PLACES) {
            CHECK.refuses(Benches::busy, INDEX, "door(" + place + ")", x -> x.door(place));
        }
        CHECK.refuses(Stairflow::new, INDEX, "door(1) on a new bench", x -> x.door(1));
        CHECK.refuses(Benches::withAllPlaces, INDEX, "door(11)", x -> x.door(11));
        CHECK.equal("door(10), the last of all places", Benches.withAllPlaces().door(10), 9);
    }

    private static void noDoor() {
        CHECK.refuses(Stairflow::new, ELEMENT, "door(0) on a new bench", x -> x.door(0));
        CHECK.refuses(Benches::busy, ELEMENT, "door(0) with doors", x -> x.door(0));
        CHECK.refuses(() -> Benches.places(1), ELEMENT, "door(1) without doors", x -> x.door(1));
        CHECK.refuses(WaysTest::cutRow, ELEMENT, "door(3), closed", x -> x.door(3));
        CHECK.refuses(WaysTest::cutRow, ELEMENT, "door(4), to a place without a distance", x -> x.door(4));
        Stairflow x = cutRow();
        CHECK.equal("door(2)", x.door(2), 1);
        x.setDoor(2, true);
        CHECK.equal("door(4), opened", x.door(4), 3);
    }

    private static void trapped() {
        CHECK.equal("trapped() of a new bench", new Stairflow().trapped(), 0);
        Stairflow x = Benches.ring();
        x.setDoor(0, false);
        x.setDoor(2, false);
        CHECK.equal("trapped() with nobody inside", x.trapped(), 0);
        for (int place = 1; place < 5; place++) {
            x.come(place, place);
        }
        CHECK.equal("trapped() with the ring cut twice", x.trapped(), 1 + 2);
        x.setDoor(0, true);
        CHECK.equal("trapped() with the ring cut once", x.trapped(), 0);
        x.setDoor(0, false);
        x.setDoor(4, false);
        CHECK.equal("trapped() with no door to the outside", x.trapped(), 1 + 2 + 3 + 4);
        x.setDoor(4, true);
        x.clear();
        CHECK.equal("people(0)", x.people(0), 7);
        CHECK.equal("trapped(), those who are outside are not", x.trapped(), 3);
        x.addPlace(30);
        x.come(5, 30);
        CHECK.equal("trapped() with a place without doors", x.trapped(), 33);
        x.setRelease(4, 1000);
        x.come(4, 5);
        CHECK.equal("trapped(), those who wait for a release are not", x.trapped(), 33);
    }

    /** Wishes, releases, rooms and shares all count, and the next step does what was told. */
    private static void wouldMove() {
        Stairflow x = Benches.merging(6, 1, 3, 2);
        CHECK.equal("wouldMove(2) of an empty place", x.wouldMove(2), 0);
        x.come(1, 2);
        x.come(2, 20);
        x.come(3, 2);
        x.come(4, 5);
        x.setRelease(4, 1);
        int[][] due = {
            {2, 2, 2, 0}, {4, 1, 0, 1}, {2, 2, 0, 2}, {4, 1, 0, 1}, {2, 3, 0, 1}, {4, 2, 0, 0},
        };
        for (int[] row : due) {
            int[] before = new int[5];
            for (int place = 1; place <= 4; place++) {
                before[place] = x.passed(place - 1);
                CHECK.equal("wouldMove(" + place + ") at " + x.now(), x.wouldMove(place), row[place - 1]);
            }
            x.step(1);
            for (int place = 1; place <= 4; place++) {
                CHECK.equal("gone from " + place, x.passed(place - 1) - before[place], row[place - 1]);
            }
        }
    }

    private static void wouldMoveMovesNobody() {
        Stairflow x = Benches.busy();
        for (int i = 0; i < 3; i++) {
            for (int place = 0; place < 5; place++) {
                x.wouldMove(place);
            }
        }
        CHECK.equal("a bench after wouldMove", Snapshot.withFuture(x), Snapshot.withFuture(Benches.busy()));
    }

    private static void wouldMoveWithoutDoor() {
        Stairflow x = cutRow();
        x.step(50);
        CHECK.equal("wouldMove(0), the outside", x.wouldMove(0), 0);
        CHECK.equal("wouldMove(3), closed", x.wouldMove(3), 0);
        CHECK.equal("wouldMove(4), to a place without a distance", x.wouldMove(4), 0);
        x.setDoor(2, true);
        CHECK.equal("wouldMove(3), opened", x.wouldMove(3), 2);
        x.setDoor(2, false);
        CHECK.equal("wouldMove(3), closed again", x.wouldMove(3), 0);
        CHECK.equal("wouldMove(0) on a new bench", new Stairflow().wouldMove(0), 0);
        Stairflow y = Benches.places(1);
        y.come(1, 30);
        CHECK.equal("wouldMove(1) without doors", y.wouldMove(1), 0);
    }

    private static void wouldMoveWithoutPlace() {
        for (int place : NO_PLACES) {
            CHECK.refuses(Benches::busy, INDEX, "wouldMove(" + place + ")", x -> x.wouldMove(place));
        }
        CHECK.refuses(Stairflow::new, INDEX, "wouldMove(1) on a new bench", x -> x.wouldMove(1));
        CHECK.refuses(Benches::withAllPlaces, INDEX, "wouldMove(11)", x -> x.wouldMove(11));
        CHECK.equal("wouldMove(10), the last of all places", Benches.withAllPlaces().wouldMove(10), 1);
    }
}
