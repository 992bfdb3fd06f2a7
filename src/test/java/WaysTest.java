import java.util.NoSuchElementException;

/** Promises 17 to 20: distance, door, trapped, wouldMove. */
public final class WaysTest {
    private static final Check CHECK = new Check();
    private static final int[] NO_PLACES = {-1, 5, Integer.MIN_VALUE, Integer.MAX_VALUE};

    public static void main(String[] args) {
        distances();
        longestWay();
        lowestDoor();
        noDoor();
        trapped();
        wouldMove();
        wouldMoveIntoFullPlace();
        CHECK.end();
    }

    /** A ring: 0 - 1 - 2 - 3 - 4 - 0, by the doors 0 to 4. */
    private static Stairflow ring() {
        Stairflow x = new Stairflow();
        for (int i = 0; i < 4; i++) {
            x.addPlace(30);
        }
        for (int i = 0; i < 5; i++) {
            x.addDoor(i, (i + 1) % 5, 2, 1);
        }
        return x;
    }

    private static void distances() {
        Stairflow x = ring();
        for (int place : NO_PLACES) {
            CHECK.refuses(x, IndexOutOfBoundsException.class, "distance(" + place + ")", () -> x.distance(place));
        }
        int[] due = {0, 1, 2, 2, 1};
        for (int place = 0; place < 5; place++) {
            CHECK.equal("distance(" + place + ")", x.distance(place), due[place]);
        }
        x.setDoor(4, false);
        for (int place = 0; place < 5; place++) {
            CHECK.equal("distance(" + place + ") with 4 closed", x.distance(place), place);
        }
        x.setDoor(1, false);
        CHECK.equal("distance(0)", x.distance(0), 0);
        CHECK.equal("distance(1)", x.distance(1), 1);
        for (int place = 2; place < 5; place++) {
            int lost = place;
            CHECK.refuses(x, NoSuchElementException.class, "distance(" + lost + ")", () -> x.distance(lost));
        }
        x.addDoor(2, 0, 1, 1);
        CHECK.equal("distance(4) by a new door", x.distance(4), 3);
        x.addPlace(1);
        CHECK.refuses(x, NoSuchElementException.class, "distance(5)", () -> x.distance(5));
    }

    /** Ten places in a row, the doors set the way that is worst for a search by rising numbers. */
    private static void longestWay() {
        Stairflow x = new Stairflow();
        for (int i = 0; i < 10; i++) {
            x.addPlace(1);
        }
        for (int place = 10; place >= 1; place--) {
            x.addDoor(place, place - 1, 1, 1);
        }
        for (int place = 1; place <= 10; place++) {
            CHECK.equal("distance(" + place + ")", x.distance(place), place);
            CHECK.equal("door(" + place + ")", x.door(place), 10 - place);
        }
    }

    private static void lowestDoor() {
        Stairflow x = new Stairflow();
        for (int i = 0; i < 4; i++) {
            x.addPlace(30);
        }
        x.addDoor(1, 2, 1, 1);
        x.addDoor(4, 3, 1, 1);
        x.addDoor(4, 2, 1, 1);
        x.addDoor(4, 1, 1, 1);
        x.addDoor(0, 2, 1, 1);
        x.addDoor(2, 0, 1, 1);
        x.addDoor(1, 0, 1, 1);
        for (int place : NO_PLACES) {
            CHECK.refuses(x, IndexOutOfBoundsException.class, "door(" + place + ")", () -> x.door(place));
        }
        CHECK.equal("door(1): not door 0, which leads to no lesser distance", x.door(1), 6);
        CHECK.equal("door(2)", x.door(2), 4);
        CHECK.equal("door(4): not door 1, which leads to a dead end", x.door(4), 2);
        CHECK.equal("door(3)", x.door(3), 1);
        x.setDoor(2, false);
        CHECK.equal("door(4)", x.door(4), 3);
        x.setDoor(4, false);
        CHECK.equal("door(2)", x.door(2), 5);
        x.setDoor(5, false);
        CHECK.equal("door(2)", x.door(2), 0);
        x.setDoor(2, true);
        CHECK.equal("door(4)", x.door(4), 3);
        x.setDoor(5, true);
        CHECK.equal("door(4)", x.door(4), 2);
    }

    private static void noDoor() {
        Stairflow x = ring();
        CHECK.refuses(x, NoSuchElementException.class, "door(0)", () -> x.door(0));
        x.setDoor(0, false);
        x.setDoor(2, false);
        CHECK.refuses(x, NoSuchElementException.class, "door(1)", () -> x.door(1));
        CHECK.refuses(x, NoSuchElementException.class, "door(2)", () -> x.door(2));
        CHECK.equal("door(3)", x.door(3), 3);
        CHECK.equal("door(4)", x.door(4), 4);
    }

    private static void trapped() {
        Stairflow x = ring();
        for (int place = 1; place < 5; place++) {
            x.come(place, place);
        }
        CHECK.equal("trapped()", x.trapped(), 0);
        x.setDoor(0, false);
        CHECK.equal("trapped()", x.trapped(), 0);
        x.setDoor(2, false);
        CHECK.equal("trapped()", x.trapped(), 3);
        x.setDoor(4, false);
        CHECK.equal("trapped()", x.trapped(), 10);
        x.setDoor(4, true);
        x.clear();
        CHECK.equal("trapped(), those who are outside are not", x.trapped(), 3);
    }

    private static void wouldMove() {
        Stairflow x = ring();
        for (int place : NO_PLACES) {
            CHECK.refuses(x, IndexOutOfBoundsException.class, "wouldMove(" + place + ")", () -> x.wouldMove(place));
        }
        x.come(1, 1);
        x.come(2, 5);
        x.come(3, 5);
        CHECK.equal("wouldMove(0)", x.wouldMove(0), 0);
        CHECK.equal("wouldMove(1), fewer than the flow", x.wouldMove(1), 1);
        CHECK.equal("wouldMove(2), the flow", x.wouldMove(2), 2);
        CHECK.equal("wouldMove(4), nobody", x.wouldMove(4), 0);
        x.setRelease(2, 2);
        CHECK.equal("wouldMove(2) at 0", x.wouldMove(2), 0);
        x.step(1);
        CHECK.equal("wouldMove(2) at 1", x.wouldMove(2), 0);
        x.step(1);
        CHECK.equal("wouldMove(2) at 2", x.wouldMove(2), 2);
        CHECK.equal("people(2), it moved nobody", x.people(2), 5);
        x.setDoor(1, false);
        x.setDoor(2, false);
        CHECK.equal("wouldMove(2) without a door", x.wouldMove(2), 0);
    }

    private static void wouldMoveIntoFullPlace() {
        Stairflow x = new Stairflow();
        x.addPlace(3);
        x.addPlace(30);
        x.addDoor(0, 1, 9, 1);
        x.addDoor(1, 2, 9, 1);
        x.come(2, 9);
        CHECK.equal("wouldMove(2), the room", x.wouldMove(2), 3);
        x.come(1, 1);
        CHECK.equal("wouldMove(2)", x.wouldMove(2), 2);
        x.come(1, 2);
        CHECK.equal("wouldMove(2), no room at the beginning", x.wouldMove(2), 0);
        CHECK.equal("wouldMove(1)", x.wouldMove(1), 3);
    }
}
