/** The section 'What it is', part by part; its last words, the limit of 512 calls, are in TermsTest. */
public final class WhatItIsTest {
    private static final Check CHECK = new Check();

    public static void main(String[] args) {
        CHECK.sentence("rooms, landings and stairs are places with a room for people", WhatItIsTest::roomForPeople);
        CHECK.sentence("joined by doors that let some persons through in each step", WhatItIsTest::someInEachStep);
        CHECK.sentence("people move by the shortest open way to the outside", WhatItIsTest::shortestOpenWay);
        CHECK.sentence("people move by the shortest open way to the outside (a full or narrow one too)",
            WhatItIsTest::shortestWayThoughFull);
        CHECK.sentence("merge by shares", WhatItIsTest::mergeByShares);
        CHECK.sentence("wait for the release of their floor", WhatItIsTest::waitForTheirFloor);
        CHECK.sentence("are sent anew when a door is closed", WhatItIsTest::sentAnew);
        CHECK.end();
    }

    /** Each place has a room of its own, and all are full at once. */
    private static void roomForPeople() {
        Stairflow x = new Stairflow();
        int all = 0;
        for (int place = 1; place <= 10; place++) {
            int room = 3 * place - 2;
            x.addPlace(room);
            CHECK.equal("come(" + place + ", " + room + ")", x.come(place, room), room);
            all += room;
        }
        for (int i = 1; i <= 10; i++) {
            int place = i;
            CHECK.equal("people(" + place + ")", x.people(place), 3 * place - 2);
            CHECK.throwsOnly(IllegalStateException.class, "come(" + place + ", 1)", () -> x.come(place, 1));
        }
        CHECK.equal("inside()", x.inside(), all);
    }

    /** The door has the same flow anew in each step, whichever end was named first. */
    private static void someInEachStep() {
        for (boolean turned : new boolean[] {false, true}) {
            for (int flow = 1; flow <= 9; flow++) {
                Stairflow x = Benches.places(2);
                x.addDoor(turned ? 2 : 1, turned ? 1 : 2, flow, 1);
                x.addDoor(turned ? 0 : 1, turned ? 1 : 0, 9, 1);
                x.come(2, 27);
                for (int step = 1; step <= 3; step++) {
                    x.step(1);
                    CHECK.equal("passed(0) in step " + step + " by " + flow, x.passed(0), flow * step);
                    CHECK.equal("passed(1) in step " + step + " by " + flow, x.passed(1), flow * (step - 1));
                }
            }
        }
    }

    private static void shortestOpenWay() {
        Stairflow x = Benches.ring();
        x.come(2, 2);
        CHECK.equal("step(2) from 2", x.step(2), 2);
        checkPassed(x, 2, 2, 0, 0, 0);
        x.come(3, 2);
        CHECK.equal("step(2) from 3", x.step(2), 2);
        checkPassed(x, 2, 2, 0, 2, 2);
        x.setDoor(0, false);
        x.come(1, 2);
        CHECK.equal("step(3) from 1, the long way", x.step(3), 0);
        CHECK.equal("step(1) from 1, the long way", x.step(1), 2);
        checkPassed(x, 2, 4, 2, 4, 4);

        Stairflow y = Benches.oneRoom(3);
        y.addDoor(1, 0, 2, 1);
        y.setDoor(0, false);
        y.come(1, 2);
        CHECK.equal("step(1) by the door beside the closed one", y.step(1), 2);
        checkPassed(y, 0, 2);
    }

    /** Nobody goes round by a place that is no nearer, though the way is wide and empty there. */
    private static void shortestWayThoughFull() {
        Stairflow x = Benches.places(2);
        x.addDoor(1, 0, 1, 1);
        x.addDoor(1, 2, 9, 1);
        x.addDoor(2, 0, 9, 1);
        x.come(1, 9);
        CHECK.equal("clear() by the narrow door", x.clear(), 9);
        checkPassed(x, 9, 0, 0);

        Stairflow y = new Stairflow();
        y.addPlace(1);
        y.addPlace(30);
        y.addPlace(30);
        y.addDoor(1, 0, 9, 1);
        y.addDoor(2, 0, 9, 1);
        y.addDoor(3, 1, 9, 1);
        y.addDoor(3, 2, 9, 1);
        y.setRelease(1, 10);
        y.come(1, 1);
        y.come(3, 3);
        CHECK.equal("step(10) in front of a full place", y.step(10), 0);
        CHECK.equal("people(3)", y.people(3), 3);
        CHECK.equal("clear() when it empties", y.clear(), 7);
        checkPassed(y, 4, 0, 3, 0);
    }

    /** A landing for 6, which empties in one step and fills in the next one: each share has its part of it. */
    private static void mergeByShares() {
        Stairflow x = Benches.merging(6, 1, 2, 3);
        for (int place = 2; place <= 4; place++) {
            x.come(place, 30);
        }
        for (int i = 1; i <= 9; i++) {
            CHECK.equal("step(1): the landing fills", x.step(1), 0);
            checkPassed(x, 6 * (i - 1), i, 2 * i, 3 * i);
            CHECK.equal("step(1): the landing empties", x.step(1), 6);
        }
    }

    /** Two floors of two rooms each, and a stair that is released at first. */
    private static void waitForTheirFloor() {
        Stairflow x = Benches.places(5);
        x.addDoor(5, 0, 9, 1);
        for (int room = 1; room <= 4; room++) {
            x.addDoor(room, 5, 2, 5);
            x.come(room, 2);
            x.setRelease(room, room <= 2 ? 3 : 6);
        }
        int[][] due = {{1, 8, 0}, {2, 8, 0}, {3, 8, 0}, {4, 4, 4}, {5, 4, 0}, {6, 4, 0}, {7, 0, 4}, {8, 0, 0}};
        for (int[] row : due) {
            x.step(1);
            int waiting = x.people(1) + x.people(2) + x.people(3) + x.people(4);
            CHECK.equal("people who wait in their rooms at " + row[0], waiting, row[1]);
            CHECK.equal("people on the stair at " + row[0], x.people(5), row[2]);
        }
        CHECK.equal("people(0)", x.people(0), 8);
    }

    private static void sentAnew() {
        Stairflow x = Benches.ring();
        x.come(2, 6);
        CHECK.equal("step(1)", x.step(1), 0);
        checkPassed(x, 0, 2, 0, 0, 0);
        x.setDoor(1, false);
        CHECK.equal("step(1): those behind the door go on", x.step(1), 2);
        checkPassed(x, 2, 2, 2, 0, 0);
        CHECK.equal("clear() of those who are sent the other way", x.clear(), 3);
        checkPassed(x, 2, 2, 4, 4, 4);
        CHECK.equal("people(0)", x.people(0), 6);
    }

    private static void checkPassed(Stairflow x, int... due) {
        for (int door = 0; door < due.length; door++) {
            CHECK.equal("passed(" + door + ") at " + x.now(), x.passed(door), due[door]);
        }
    }
}
