/** Promises 1 to 8: what is built. */
public final class BuildTest {
    private static final Check CHECK = new Check();

    public static void main(String[] args) {
        newObject();
        addPlace();
        mostPlaces();
        addDoor();
        addDoorRefused();
        addDoorFirstFault();
        mostDoors();
        setDoor();
        come();
        comeRefused();
        setRelease();
        setReleaseRefused();
        CHECK.end();
    }

    private static void newObject() {
        Stairflow x = new Stairflow();
        CHECK.equal("a new bench", Snapshot.of(x), "places 1 doors 0 now 0 inside 0 latest NoSuchElementException"
            + " waited 0 trapped 0 bound 0"
            + " | place -1 people IndexOutOfBoundsException distance IndexOutOfBoundsException"
            + " door IndexOutOfBoundsException wouldMove IndexOutOfBoundsException"
            + " | place 0 people 0 distance 0 door NoSuchElementException wouldMove 0"
            + " | place 1 people IndexOutOfBoundsException distance IndexOutOfBoundsException"
            + " door IndexOutOfBoundsException wouldMove IndexOutOfBoundsException"
            + " | passed -1 IndexOutOfBoundsException | passed 0 IndexOutOfBoundsException");
        x.addPlace(3);
        CHECK.equal("another new bench's places()", new Stairflow().places(), 1);
    }

    private static void addPlace() {
        Stairflow x = new Stairflow();
        for (int room : new int[] {0, -1, 31, Integer.MIN_VALUE, Integer.MAX_VALUE}) {
            CHECK.refuses(x, IllegalArgumentException.class, "addPlace(" + room + ")", () -> x.addPlace(room));
        }
        CHECK.equal("addPlace(1)", x.addPlace(1), 1);
        CHECK.equal("addPlace(30)", x.addPlace(30), 2);
        CHECK.equal("places()", x.places(), 3);
        CHECK.equal("people(1)", x.people(1), 0);
        CHECK.equal("people(2)", x.people(2), 0);
        CHECK.equal("come(1, 1)", x.come(1, 1), 1);
        CHECK.refuses(x, IllegalStateException.class, "come(1, 1)", () -> x.come(1, 1));
        CHECK.equal("come(2, 30)", x.come(2, 30), 30);
    }

    private static void mostPlaces() {
        Stairflow x = new Stairflow();
        for (int place = 1; place <= 10; place++) {
            CHECK.equal("addPlace(7)", x.addPlace(7), place);
        }
        CHECK.equal("places()", x.places(), 11);
        CHECK.refuses(x, IllegalStateException.class, "an eleventh addPlace(7)", () -> x.addPlace(7));
        CHECK.refuses(x, IllegalArgumentException.class, "an eleventh addPlace(31)", () -> x.addPlace(31));
        CHECK.equal("come(10, 7)", x.come(10, 7), 7);
    }

    private static void addDoor() {
        Stairflow x = new Stairflow();
        x.addPlace(30);
        x.addPlace(30);
        CHECK.equal("addDoor(0, 1, 1, 1)", x.addDoor(0, 1, 1, 1), 0);
        CHECK.equal("addDoor(1, 2, 9, 5)", x.addDoor(1, 2, 9, 5), 1);
        CHECK.equal("addDoor(2, 1, 9, 5), the same once more", x.addDoor(2, 1, 9, 5), 2);
        CHECK.equal("doors()", x.doors(), 3);
        CHECK.equal("distance(2)", x.distance(2), 2);
        CHECK.equal("passed(2)", x.passed(2), 0);
        CHECK.holds("door 2 was open at first", x.setDoor(2, false));
    }

    private static void addDoorRefused() {
        Stairflow x = new Stairflow();
        x.addPlace(30);
        int[] ends = {-1, 2, Integer.MIN_VALUE, Integer.MAX_VALUE};
        for (int end : ends) {
            CHECK.refuses(x, IndexOutOfBoundsException.class, "addDoor(" + end + ", 1, 1, 1)",
                () -> x.addDoor(end, 1, 1, 1));
            CHECK.refuses(x, IndexOutOfBoundsException.class, "addDoor(1, " + end + ", 1, 1)",
                () -> x.addDoor(1, end, 1, 1));
            CHECK.refuses(x, IndexOutOfBoundsException.class, "addDoor(" + end + ", " + end + ", 1, 1)",
                () -> x.addDoor(end, end, 1, 1));
        }
        for (int place = 0; place <= 1; place++) {
            int same = place;
            CHECK.refuses(x, IllegalArgumentException.class, "addDoor(" + same + ", " + same + ", 1, 1)",
                () -> x.addDoor(same, same, 1, 1));
        }
        for (int flow : new int[] {0, 10, Integer.MIN_VALUE, Integer.MAX_VALUE}) {
            CHECK.refuses(x, IllegalArgumentException.class, "addDoor(0, 1, " + flow + ", 1)",
                () -> x.addDoor(0, 1, flow, 1));
        }
        for (int share : new int[] {0, 6, Integer.MIN_VALUE, Integer.MAX_VALUE}) {
            CHECK.refuses(x, IllegalArgumentException.class, "addDoor(0, 1, 1, " + share + ")",
                () -> x.addDoor(0, 1, 1, share));
        }
    }

    private static void addDoorFirstFault() {
        Stairflow x = new Stairflow();
        x.addPlace(30);
        for (int i = 0; i < 16; i++) {
            x.addDoor(0, 1, 1, 1);
        }
        CHECK.refuses(x, IndexOutOfBoundsException.class, "addDoor(2, 2, 0, 0) with 16 doors",
            () -> x.addDoor(2, 2, 0, 0));
        CHECK.refuses(x, IllegalArgumentException.class, "addDoor(1, 1, 1, 1) with 16 doors",
            () -> x.addDoor(1, 1, 1, 1));
        CHECK.refuses(x, IllegalArgumentException.class, "addDoor(0, 1, 0, 1) with 16 doors",
            () -> x.addDoor(0, 1, 0, 1));
        CHECK.refuses(x, IllegalArgumentException.class, "addDoor(0, 1, 1, 6) with 16 doors",
            () -> x.addDoor(0, 1, 1, 6));
    }

    private static void mostDoors() {
        Stairflow x = new Stairflow();
        x.addPlace(30);
        for (int door = 0; door < 16; door++) {
            CHECK.equal("addDoor(1, 0, 2, 3)", x.addDoor(1, 0, 2, 3), door);
        }
        CHECK.equal("doors()", x.doors(), 16);
        CHECK.refuses(x, IllegalStateException.class, "a seventeenth door", () -> x.addDoor(1, 0, 2, 3));
        CHECK.holds("setDoor(15, false)", x.setDoor(15, false));
    }

    private static void setDoor() {
        Stairflow x = new Stairflow();
        x.addPlace(30);
        x.addDoor(0, 1, 1, 1);
        for (int door : new int[] {-1, 1, Integer.MIN_VALUE, Integer.MAX_VALUE}) {
            CHECK.refuses(x, IndexOutOfBoundsException.class, "setDoor(" + door + ", false)",
                () -> x.setDoor(door, false));
        }
        CHECK.holds("setDoor(0, true) answers true", x.setDoor(0, true));
        CHECK.holds("setDoor(0, false) answers true", x.setDoor(0, false));
        CHECK.refuses(x, java.util.NoSuchElementException.class, "distance(1)", () -> x.distance(1));
        CHECK.holds("setDoor(0, false) answers false", !x.setDoor(0, false));
        CHECK.holds("setDoor(0, true) answers false", !x.setDoor(0, true));
        CHECK.equal("distance(1)", x.distance(1), 1);
    }

    private static void come() {
        Stairflow x = new Stairflow();
        x.addPlace(30);
        x.addPlace(5);
        CHECK.equal("come(1, 1)", x.come(1, 1), 1);
        CHECK.equal("come(1, 28)", x.come(1, 28), 29);
        CHECK.equal("come(2, 5)", x.come(2, 5), 5);
        CHECK.refuses(x, IllegalStateException.class, "come(1, 2)", () -> x.come(1, 2));
        CHECK.equal("come(1, 1)", x.come(1, 1), 30);
        CHECK.refuses(x, IllegalStateException.class, "come(2, 1)", () -> x.come(2, 1));
        CHECK.equal("people(1)", x.people(1), 30);
        CHECK.equal("people(2)", x.people(2), 5);
        CHECK.equal("waited()", x.waited(), 0);
    }

    private static void comeRefused() {
        Stairflow x = new Stairflow();
        x.addPlace(5);
        for (int place : new int[] {-1, 2, Integer.MIN_VALUE, Integer.MAX_VALUE}) {
            CHECK.refuses(x, IndexOutOfBoundsException.class, "come(" + place + ", 1)", () -> x.come(place, 1));
            CHECK.refuses(x, IndexOutOfBoundsException.class, "come(" + place + ", 0)", () -> x.come(place, 0));
        }
        for (int people : new int[] {0, -1, 31, Integer.MIN_VALUE, Integer.MAX_VALUE}) {
            CHECK.refuses(x, IllegalArgumentException.class, "come(1, " + people + ")", () -> x.come(1, people));
        }
        CHECK.refuses(x, IllegalArgumentException.class, "come(0, 1)", () -> x.come(0, 1));
        CHECK.refuses(x, IllegalStateException.class, "come(1, 30)", () -> x.come(1, 30));
        CHECK.refuses(x, IllegalStateException.class, "come(1, 6)", () -> x.come(1, 6));
    }

    private static void setRelease() {
        Stairflow x = new Stairflow();
        x.addPlace(5);
        CHECK.equal("setRelease(1, 1000)", x.setRelease(1, 1000), 0);
        CHECK.equal("setRelease(1, 7)", x.setRelease(1, 7), 1000);
        CHECK.equal("setRelease(1, 0)", x.setRelease(1, 0), 7);
        CHECK.equal("setRelease(1, 3)", x.setRelease(1, 3), 0);
        CHECK.equal("setRelease(0, 9)", x.setRelease(0, 9), 0);
        CHECK.equal("setRelease(0, 1)", x.setRelease(0, 1), 9);
        CHECK.equal("setRelease(1, 0)", x.setRelease(1, 0), 3);
    }

    private static void setReleaseRefused() {
        Stairflow x = new Stairflow();
        x.addPlace(5);
        x.setRelease(1, 8);
        for (int place : new int[] {-1, 2, Integer.MIN_VALUE, Integer.MAX_VALUE}) {
            CHECK.refuses(x, IndexOutOfBoundsException.class, "setRelease(" + place + ", 1)",
                () -> x.setRelease(place, 1));
            CHECK.refuses(x, IndexOutOfBoundsException.class, "setRelease(" + place + ", -1)",
                () -> x.setRelease(place, -1));
        }
        for (int time : new int[] {-1, 1001, Integer.MIN_VALUE, Integer.MAX_VALUE}) {
            CHECK.refuses(x, IllegalArgumentException.class, "setRelease(1, " + time + ")",
                () -> x.setRelease(1, time));
        }
        CHECK.equal("setRelease(1, 0)", x.setRelease(1, 0), 8);
    }
}
