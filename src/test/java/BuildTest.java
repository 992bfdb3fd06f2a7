/** Promises 1 to 8, sentence by sentence: what is built. */
public final class BuildTest {
    private static final Check CHECK = new Check();
    private static final Class<IndexOutOfBoundsException> INDEX = IndexOutOfBoundsException.class;
    private static final Class<IllegalArgumentException> ARGUMENT = IllegalArgumentException.class;
    private static final Class<IllegalStateException> STATE = IllegalStateException.class;

    public static void main(String[] args) {
        CHECK.sentence("1: Creates a bench with the outside alone.", BuildTest::newBench);
        CHECK.sentence("2: Adds a place without people.", BuildTest::placeWithoutPeople);
        CHECK.sentence("2: room: 1 to 30", BuildTest::room);
        CHECK.sentence("2: Returns its number.", BuildTest::placeNumber);
        CHECK.sentence("2: IllegalArgumentException if room is out of range", BuildTest::roomOutOfRange);
        CHECK.sentence("2: IllegalStateException if there are 10 places besides the outside", BuildTest::tenPlaces);
        addDoor();
        CHECK.sentence("4: Closes a door, or opens it.", BuildTest::closesOrOpens);
        CHECK.sentence("4: whether it is open from now on", BuildTest::fromNowOn);
        CHECK.sentence("4: Returns whether it was open.", BuildTest::whetherItWasOpen);
        CHECK.sentence("4: IndexOutOfBoundsException if there is no such door", BuildTest::setDoorWithoutDoor);
        CHECK.sentence("5: Lets people come to a place.", BuildTest::comeToAPlace);
        CHECK.sentence("5: place: its number, not the outside", BuildTest::comeToAnyPlace);
        CHECK.sentence("5: people: 1 to 30", BuildTest::people);
        CHECK.sentence("5: Returns how many are there then.", BuildTest::howManyAreThere);
        CHECK.sentence("5: IndexOutOfBoundsException if there is no such place", BuildTest::comeWithoutPlace);
        CHECK.sentence("5: IllegalArgumentException if it is the outside", BuildTest::comeOutside);
        CHECK.sentence("5: IllegalArgumentException if people is out of range", BuildTest::peopleOutOfRange);
        CHECK.sentence("5: IllegalStateException if there would be more than its room", BuildTest::moreThanItsRoom);
        CHECK.sentence("6: Sets the release time of a place.", BuildTest::releaseOfOnePlace);
        CHECK.sentence("6: time: 0 to 1000", BuildTest::releaseTimes);
        CHECK.sentence("6: Returns the release time before.", BuildTest::releaseBefore);
        CHECK.sentence("6: IndexOutOfBoundsException if there is no such place", BuildTest::releaseWithoutPlace);
        CHECK.sentence("6: IllegalArgumentException if time is out of range", BuildTest::timeOutOfRange);
        CHECK.sentence("7: Returns the number of places, the outside included.", BuildTest::places);
        CHECK.sentence("8: Returns the number of doors.", BuildTest::doors);
        CHECK.end();
    }

    private static void addDoor() {
        CHECK.sentence("3: Adds an open door.", BuildTest::openDoor);
        CHECK.sentence("3: one: a place; other: another place", BuildTest::doorEnds);
        CHECK.sentence("3: flow: 1 to 9", BuildTest::flow);
        CHECK.sentence("3: share: 1 to 5", BuildTest::share);
        CHECK.sentence("3: Returns its number.", BuildTest::doorNumber);
        CHECK.sentence("3: IndexOutOfBoundsException if there is no such place", BuildTest::doorWithoutPlace);
        CHECK.sentence("3: IllegalArgumentException if both places are the same", BuildTest::doorOfOnePlace);
        CHECK.sentence("3: IllegalArgumentException if flow is out of range", BuildTest::flowOutOfRange);
        CHECK.sentence("3: IllegalArgumentException if share is out of range", BuildTest::shareOutOfRange);
        CHECK.sentence("3: IllegalStateException if there are 16 doors", BuildTest::sixteenDoors);
    }

    private static void newBench() {
        Stairflow x = new Stairflow();
        CHECK.equal("a new bench", Snapshot.of(x), "places 1 doors 0 now 0 inside 0 waited 0 trapped 0"
            + " | place 0 people 0 wouldMove 0 | latest NoSuchElementException bound 0"
            + " | place 0 distance 0 door NoSuchElementException");
        CHECK.throwsOnly(INDEX, "people(1)", () -> x.people(1));
        CHECK.throwsOnly(INDEX, "passed(0)", () -> x.passed(0));
        CHECK.equal("setRelease(0, 5)", x.setRelease(0, 5), 0);
        x.addPlace(3);
        x.addDoor(0, 1, 1, 1);
        x.come(1, 1);
        x.step(1);
        Stairflow y = new Stairflow();
        CHECK.equal("places() of another new bench", y.places(), 1);
        CHECK.equal("doors() of another new bench", y.doors(), 0);
        CHECK.equal("now() of another new bench", y.now(), 0);
        CHECK.equal("people(0) of another new bench", y.people(0), 0);
        CHECK.equal("setRelease(0, 5) of another new bench", y.setRelease(0, 5), 0);
    }

    private static void placeWithoutPeople() {
        Stairflow x = new Stairflow();
        x.addPlace(1);
        x.come(1, 1);
        x.addPlace(30);
        CHECK.equal("people(2)", x.people(2), 0);
        CHECK.equal("inside()", x.inside(), 1);
        CHECK.equal("people(1)", x.people(1), 1);
        CHECK.equal("trapped()", x.trapped(), 1);
        CHECK.equal("setRelease(2, 1)", x.setRelease(2, 1), 0);
    }

    private static void room() {
        for (int i = 1; i <= 30; i++) {
            int room = i;
            Stairflow x = new Stairflow();
            CHECK.equal("addPlace(" + room + ")", x.addPlace(room), 1);
            CHECK.equal("come(1, " + room + ")", x.come(1, room), room);
            CHECK.throwsOnly(STATE, "come(1, 1) above a room of " + room, () -> x.come(1, 1));
        }
    }

    private static void placeNumber() {
        Stairflow x = new Stairflow();
        for (int place = 1; place <= 10; place++) {
            CHECK.equal("addPlace(4)", x.addPlace(4), place);
            CHECK.equal("come(" + place + ", 1)", x.come(place, 1), 1);
        }
    }

    private static void roomOutOfRange() {
        for (int room : new int[] {0, -1, 31, 32}) {
            CHECK.refuses(Benches::busy, ARGUMENT, "addPlace(" + room + ")", x -> x.addPlace(room));
        }
        for (int room : Benches.FAR) {
            CHECK.refuses(Benches::busy, ARGUMENT, "addPlace(" + room + ")", x -> x.addPlace(room));
        }
    }

    private static void tenPlaces() {
        Stairflow x = Benches.places(9);
        CHECK.equal("addPlace(1) with 9 places besides the outside", x.addPlace(1), 10);
        for (int room : new int[] {1, 30}) {
            CHECK.refuses(Benches::withAllPlaces, STATE, "addPlace(" + room + ")", y -> y.addPlace(room));
        }
    }

    private static void openDoor() {
        Stairflow x = Benches.places(1);
        x.addDoor(0, 1, 1, 1);
        CHECK.equal("distance(1)", x.distance(1), 1);
        x.setDoor(0, false);
        x.addDoor(1, 0, 3, 1);
        CHECK.equal("distance(1) by the second door", x.distance(1), 1);
        CHECK.equal("door(1)", x.door(1), 1);
        CHECK.equal("passed(1)", x.passed(1), 0);
        CHECK.holds("the second door is open", x.setDoor(1, true));
        CHECK.holds("the first door is closed", !x.setDoor(0, true));
    }

    private static void doorEnds() {
        for (int one = 0; one <= 10; one++) {
            for (int other = 0; other <= 10; other++) {
                if (one != other) {
                    Stairflow x = Benches.places(10);
                    CHECK.equal("addDoor(" + one + ", " + other + ", 1, 1)", x.addDoor(one, other, 1, 1), 0);
                    int joined = one == 0 ? other : other == 0 ? one : -1;
                    for (int place = 1; place <= 10; place++) {
                        CHECK.equal("wayOut(" + place + ")", hasWay(x, place), place == joined ? 1 : 0);
                    }
                }
            }
        }
    }

    private static int hasWay(Stairflow x, int place) {
        return Snapshot.answer(() -> x.distance(place)).equals("1") ? 1 : 0;
    }

    private static void flow() {
        for (int flow = 1; flow <= 9; flow++) {
            Stairflow x = Benches.places(1);
            CHECK.equal("addDoor(1, 0, " + flow + ", 1)", x.addDoor(1, 0, flow, 1), 0);
            x.come(1, 30);
            CHECK.equal("step(1) by a flow of " + flow, x.step(1), flow);
        }
    }

    private static void share() {
        for (int share = 1; share <= 5; share++) {
            Stairflow x = Benches.places(1);
            CHECK.equal("addDoor(1, 0, 1, " + share + ")", x.addDoor(1, 0, 1, share), 0);
            Stairflow y = Benches.merging(5, share, 5);
            y.come(2, 9);
            y.come(3, 9);
            CHECK.equal("wouldMove(2) by a share of " + share, y.wouldMove(2), share);
        }
    }

    private static void doorNumber() {
        Stairflow x = Benches.places(2);
        for (int door = 0; door < 16; door++) {
            CHECK.equal("addDoor(1, 2, 1, 1)", x.addDoor(1, 2, 1, 1), door);
            CHECK.equal("passed(" + door + ")", x.passed(door), 0);
        }
    }

    private static void doorWithoutPlace() {
        for (int place : new int[] {-1, 5, 10, 11, Integer.MIN_VALUE, Integer.MAX_VALUE}) {
            CHECK.refuses(Benches::busy, INDEX, "addDoor(" + place + ", 1, 1, 1)", x -> x.addDoor(place, 1, 1, 1));
            CHECK.refuses(Benches::busy, INDEX, "addDoor(1, " + place + ", 1, 1)", x -> x.addDoor(1, place, 1, 1));
            CHECK.refuses(Benches::busy, INDEX, "addDoor(" + place + ", " + place + ", 1, 1)",
                x -> x.addDoor(place, place, 1, 1));
        }
        CHECK.equal("addDoor(4, 1, 1, 1), the last place", Benches.busy().addDoor(4, 1, 1, 1), 5);
        CHECK.equal("addDoor(1, 4, 1, 1), the last place", Benches.busy().addDoor(1, 4, 1, 1), 5);
        CHECK.refuses(Benches::withAllPlaces, INDEX, "addDoor(11, 10, 1, 1)", x -> x.addDoor(11, 10, 1, 1));
        CHECK.refuses(Benches::withAllPlaces, INDEX, "addDoor(10, 11, 1, 1)", x -> x.addDoor(10, 11, 1, 1));
    }

    private static void doorOfOnePlace() {
        for (int place = 0; place <= 10; place++) {
            int same = place;
            CHECK.refuses(Benches::withAllPlaces, ARGUMENT, "addDoor(" + same + ", " + same + ", 1, 1)",
                x -> x.addDoor(same, same, 1, 1));
        }
    }

    private static void flowOutOfRange() {
        for (int flow : new int[] {0, -1, 10, 11, Integer.MIN_VALUE, Integer.MAX_VALUE}) {
            CHECK.refuses(Benches::busy, ARGUMENT, "addDoor(0, 1, " + flow + ", 1)", x -> x.addDoor(0, 1, flow, 1));
        }
    }

    private static void shareOutOfRange() {
        for (int share : new int[] {0, -1, 6, 7, Integer.MIN_VALUE, Integer.MAX_VALUE}) {
            CHECK.refuses(Benches::busy, ARGUMENT, "addDoor(0, 1, 1, " + share + ")",
                x -> x.addDoor(0, 1, 1, share));
        }
    }

    private static void sixteenDoors() {
        Stairflow x = Benches.places(1);
        for (int door = 0; door < 15; door++) {
            x.addDoor(1, 0, 1, 1);
        }
        CHECK.equal("addDoor(1, 0, 1, 1) with 15 doors", x.addDoor(1, 0, 1, 1), 15);
        CHECK.refuses(Benches::withAllDoors, STATE, "addDoor(1, 0, 1, 1) with 16 doors", y -> y.addDoor(1, 0, 1, 1));
        CHECK.refuses(BuildTest::withAllDoorsClosed, STATE, "addDoor(1, 0, 1, 1) with 16 closed doors",
            y -> y.addDoor(1, 0, 1, 1));
    }

    private static Stairflow withAllDoorsClosed() {
        Stairflow x = Benches.withAllDoors();
        for (int door = 0; door < 16; door++) {
            x.setDoor(door, false);
        }
        return x;
    }

    private static void closesOrOpens() {
        Stairflow x = Benches.oneRoom(1);
        x.come(1, 30);
        x.setDoor(0, false);
        CHECK.throwsOnly(java.util.NoSuchElementException.class, "distance(1)", () -> x.distance(1));
        CHECK.equal("step(1), closed", x.step(1), 0);
        x.setDoor(0, false);
        CHECK.equal("step(1), closed twice", x.step(1), 0);
        x.setDoor(0, true);
        CHECK.equal("distance(1)", x.distance(1), 1);
        CHECK.equal("step(1), opened", x.step(1), 1);
        x.setDoor(0, true);
        CHECK.equal("step(1), opened twice", x.step(1), 1);
        Stairflow y = Benches.withAllDoors();
        for (int door = 0; door < 15; door++) {
            y.setDoor(door, false);
        }
        CHECK.equal("door(2): the last door alone is open", y.door(2), 15);
        CHECK.throwsOnly(java.util.NoSuchElementException.class, "door(1)", () -> y.door(1));
    }

    /** Each door in turn alone is open, or alone closed, until it is set again; steps do not change that. */
    private static void fromNowOn() {
        for (boolean alone : new boolean[] {true, false}) {
            Stairflow x = Benches.withAllDoors();
            for (int door = 0; door < 16; door++) {
                x.setDoor(door, !alone);
            }
            for (int door = 0; door < 16; door++) {
                x.setDoor(door, alone);
                checkAlone(x, door, alone);
                x.step(2);
                checkAlone(x, door, alone);
                x.setDoor(door, !alone);
            }
        }
    }

    /** The even doors lead from place 1 to the outside, the odd ones from place 2. */
    private static void checkAlone(Stairflow x, int door, boolean open) {
        for (int place = 1; place <= 2; place++) {
            int at = place;
            boolean mine = door % 2 == place - 1;
            int lowest = place - 1;
            int next = door == lowest ? lowest + 2 : lowest;
            String due = open ? (mine ? "" + door : "NoSuchElementException") : "" + next;
            CHECK.equal("door(" + place + ") when " + door + " alone is " + (open ? "open" : "closed"),
                Snapshot.answer(() -> x.door(at)), due);
        }
    }

    private static void whetherItWasOpen() {
        Stairflow x = Benches.withAllDoors();
        for (int door = 0; door < 16; door++) {
            CHECK.holds("open, then opened", x.setDoor(door, true));
            CHECK.holds("open, then closed", x.setDoor(door, false));
            CHECK.holds("closed, then closed", !x.setDoor(door, false));
            CHECK.holds("closed, then opened", !x.setDoor(door, true));
            CHECK.holds("open again, then closed", x.setDoor(door, false));
        }
    }

    private static void setDoorWithoutDoor() {
        for (int door : new int[] {-1, 5, 15, 16, Integer.MIN_VALUE, Integer.MAX_VALUE}) {
            CHECK.refuses(Benches::busy, INDEX, "setDoor(" + door + ", false)", x -> x.setDoor(door, false));
            CHECK.refuses(Benches::busy, INDEX, "setDoor(" + door + ", true)", x -> x.setDoor(door, true));
        }
        CHECK.holds("setDoor(4, false), the last door", Benches.busy().setDoor(4, false));
        CHECK.holds("setDoor(0, false), the first door", Benches.busy().setDoor(0, false));
        CHECK.refuses(Benches::withAllDoors, INDEX, "setDoor(16, false)", x -> x.setDoor(16, false));
        CHECK.refuses(() -> Benches.places(1), INDEX, "setDoor(0, false) without doors", x -> x.setDoor(0, false));
    }

    /** Those who come stand at that place alone, no time passes, and nobody goes through a door. */
    private static void comeToAPlace() {
        Stairflow x = Benches.ring();
        int[] due = {0, 0, 0, 0, 0};
        for (int place : new int[] {3, 1, 4, 2, 3, 1}) {
            x.come(place, place + 2);
            due[place] += place + 2;
            for (int other = 0; other < 5; other++) {
                CHECK.equal("people(" + other + ") behind come(" + place + ", ..)", x.people(other), due[other]);
                CHECK.equal("passed(" + other + ")", x.passed(other), 0);
            }
        }
        CHECK.equal("inside()", x.inside(), 6 + 4 + 10 + 6);
        CHECK.equal("now()", x.now(), 0);
        CHECK.equal("waited()", x.waited(), 0);
    }

    /** Also to a place without a way, and to one that is not released. */
    private static void comeToAnyPlace() {
        Stairflow x = Benches.places(10);
        x.addDoor(10, 0, 1, 1);
        x.setRelease(10, 1000);
        for (int place = 1; place <= 10; place++) {
            CHECK.equal("come(" + place + ", 30)", x.come(place, 30), 30);
        }
        CHECK.equal("inside()", x.inside(), 300);
        CHECK.refuses(Benches::withAllPlaces, ARGUMENT, "come(0, 1)", y -> y.come(0, 1));
    }

    private static void people() {
        for (int people = 1; people <= 30; people++) {
            Stairflow x = Benches.places(1);
            CHECK.equal("come(1, " + people + ")", x.come(1, people), people);
            CHECK.equal("people(1)", x.people(1), people);
        }
    }

    private static void howManyAreThere() {
        Stairflow x = Benches.row(2, 4);
        CHECK.equal("come(1, 1)", x.come(1, 1), 1);
        CHECK.equal("come(1, 28)", x.come(1, 28), 29);
        CHECK.equal("come(1, 1)", x.come(1, 1), 30);
        CHECK.equal("come(2, 7)", x.come(2, 7), 7);
        x.step(1);
        CHECK.equal("come(1, 4), when 4 have gone", x.come(1, 4), 30);
        CHECK.equal("people(2)", x.people(2), 7);
        x.step(50);
        CHECK.equal("come(2, 30), when all have gone", x.come(2, 30), 30);
    }

    private static void comeWithoutPlace() {
        for (int place : new int[] {-1, 5, 10, 11, Integer.MIN_VALUE, Integer.MAX_VALUE}) {
            CHECK.refuses(Benches::busy, INDEX, "come(" + place + ", 1)", x -> x.come(place, 1));
        }
        CHECK.equal("come(4, 1), the last place", Benches.busy().come(4, 1), 3);
        CHECK.refuses(Benches::withAllPlaces, INDEX, "come(11, 1)", x -> x.come(11, 1));
        CHECK.refuses(Stairflow::new, ARGUMENT, "come(0, 1) on a new bench", x -> x.come(0, 1));
        CHECK.equal("come(10, 1), the last of all places", Benches.withAllPlaces().come(10, 1), 11);
    }

    private static void comeOutside() {
        for (int people : new int[] {1, 2, 30}) {
            CHECK.refuses(Benches::busy, ARGUMENT, "come(0, " + people + ")", x -> x.come(0, people));
        }
    }

    private static void peopleOutOfRange() {
        for (int people : new int[] {0, -1, -20, 31, 32}) {
            CHECK.refuses(Benches::busy, ARGUMENT, "come(2, " + people + ")", x -> x.come(2, people));
        }
        for (int people : Benches.FAR) {
            CHECK.refuses(Benches::busy, ARGUMENT, "come(2, " + people + ")", x -> x.come(2, people));
        }
    }

    private static void moreThanItsRoom() {
        for (int room = 1; room <= 30; room++) {
            for (int there = 0; there <= room; there++) {
                checkRoomLeft(room, there);
            }
        }
        CHECK.refuses(BuildTest::roomOf5With3, STATE, "come(1, 3) with 3 people in a room of 5", x -> x.come(1, 3));
        CHECK.refuses(BuildTest::roomOf5With3, STATE, "come(1, 30) with 3 people in a room of 5", x -> x.come(1, 30));
    }

    private static void checkRoomLeft(int room, int there) {
        Stairflow x = new Stairflow();
        x.addPlace(room);
        if (there > 0) {
            x.come(1, there);
        }
        int left = room - there;
        if (left < 30) {
            CHECK.throwsOnly(STATE, "come(1, " + (left + 1) + ") with " + there + " in a room of " + room,
                () -> x.come(1, left + 1));
        }
        if (left > 0) {
            CHECK.equal("come(1, " + left + ") with " + there + " in a room of " + room, x.come(1, left), room);
        }
    }

    private static Stairflow roomOf5With3() {
        Stairflow x = new Stairflow();
        x.addPlace(5);
        x.come(1, 3);
        return x;
    }

    /** Ten places with a door each: the one that is not yet released stays alone. */
    private static void releaseOfOnePlace() {
        for (int place = 0; place <= 10; place++) {
            Stairflow x = Benches.withAllPlaces();
            x.setRelease(place, 2);
            for (int other = 1; other <= 10; other++) {
                CHECK.equal("wouldMove(" + other + ") when " + place + " is not released", x.wouldMove(other),
                    other == place ? 0 : 1);
            }
            CHECK.equal("step(2)", x.step(2), place == 0 ? 19 : place == 1 ? 18 : 17);
            CHECK.equal("wouldMove(10) behind the release", x.wouldMove(10), 1);
        }
    }

    private static void releaseTimes() {
        Stairflow x = Benches.oneRoom(1);
        x.come(1, 3);
        int before = 0;
        for (int time : new int[] {0, 1, 999, 1000, 1}) {
            CHECK.equal("setRelease(1, " + time + ")", x.setRelease(1, time), before);
            before = time;
        }
        CHECK.equal("step(1) at 0, released at 1", x.step(1), 0);
        CHECK.equal("step(1) at 1, released at 1", x.step(1), 1);
        x.setRelease(1, 1000);
        CHECK.equal("step(1) at 2, released at 1000", x.step(1), 0);
        x.setRelease(1, 0);
        CHECK.equal("step(1) at 3, released at 0", x.step(1), 1);
    }

    private static void releaseBefore() {
        Stairflow x = Benches.places(10);
        for (int place = 0; place <= 10; place++) {
            CHECK.equal("setRelease(" + place + ", ..), 0 at first", x.setRelease(place, 10 + place), 0);
        }
        x.step(50);
        for (int place = 0; place <= 10; place++) {
            CHECK.equal("setRelease(" + place + ", 0)", x.setRelease(place, 0), 10 + place);
            CHECK.equal("setRelease(" + place + ", 3)", x.setRelease(place, 3), 0);
        }
    }

    private static void releaseWithoutPlace() {
        for (int place : new int[] {-1, 5, 10, 11, Integer.MIN_VALUE, Integer.MAX_VALUE}) {
            CHECK.refuses(Benches::busy, INDEX, "setRelease(" + place + ", 9)", x -> x.setRelease(place, 9));
        }
        CHECK.equal("setRelease(4, 9), the last place", Benches.busy().setRelease(4, 9), 40);
        CHECK.equal("setRelease(0, 9), the outside", Benches.busy().setRelease(0, 9), 1);
        CHECK.refuses(Benches::withAllPlaces, INDEX, "setRelease(11, 9)", x -> x.setRelease(11, 9));
    }

    private static void timeOutOfRange() {
        for (int time : new int[] {-1, -2, 1001, 1002, Integer.MIN_VALUE, Integer.MAX_VALUE}) {
            CHECK.refuses(Benches::busy, ARGUMENT, "setRelease(2, " + time + ")", x -> x.setRelease(2, time));
            CHECK.refuses(Benches::busy, ARGUMENT, "setRelease(0, " + time + ")", x -> x.setRelease(0, time));
        }
    }

    private static void places() {
        Stairflow x = new Stairflow();
        CHECK.equal("places() of a new bench", x.places(), 1);
        for (int place = 1; place <= 10; place++) {
            x.addPlace(30);
            CHECK.equal("places()", x.places(), place + 1);
        }
        CHECK.throwsOnly(STATE, "addPlace(30)", () -> x.addPlace(30));
        CHECK.equal("places() behind a refused addPlace", x.places(), 11);
    }

    private static void doors() {
        Stairflow x = Benches.places(1);
        CHECK.equal("doors() of a bench without doors", x.doors(), 0);
        for (int door = 0; door < 16; door++) {
            x.addDoor(0, 1, 1, 1);
            CHECK.equal("doors()", x.doors(), door + 1);
        }
        CHECK.throwsOnly(STATE, "addDoor(0, 1, 1, 1)", () -> x.addDoor(0, 1, 1, 1));
        CHECK.equal("doors() behind a refused addDoor", x.doors(), 16);
        x.setDoor(3, false);
        CHECK.equal("doors() with a closed one", x.doors(), 16);
    }
}
