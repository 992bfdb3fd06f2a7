/** Benches that several tests begin with. */
final class Benches {
    /** Numbers that are far from every range of the document. */
    static final int[] FAR = {Integer.MIN_VALUE, Integer.MIN_VALUE + 1, Integer.MAX_VALUE - 1, Integer.MAX_VALUE};

    private Benches() {
    }

    /** Places with a room of 30 and no doors. */
    static Stairflow places(int count) {
        Stairflow x = new Stairflow();
        for (int i = 0; i < count; i++) {
            x.addPlace(30);
        }
        return x;
    }

    /** One place, and one door from it to the outside. */
    static Stairflow oneRoom(int flow) {
        Stairflow x = places(1);
        x.addDoor(1, 0, flow, 1);
        return x;
    }

    /** The places stand in a row; the door number k leads from the place k + 1 to the place k. */
    static Stairflow row(int count, int flow) {
        Stairflow x = places(count);
        for (int door = 0; door < count; door++) {
            x.addDoor(door + 1, door, flow, 1);
        }
        return x;
    }

    /** A ring: 0 - 1 - 2 - 3 - 4 - 0, by the doors 0 to 4. */
    static Stairflow ring() {
        Stairflow x = places(4);
        for (int door = 0; door < 5; door++) {
            x.addDoor(door, (door + 1) % 5, 2, 1);
        }
        return x;
    }

    /** Place 1 has this room; the door k leads to it from the place k + 1, with a flow of 9 and the given share. */
    static Stairflow merging(int room, int... shares) {
        Stairflow x = new Stairflow();
        x.addPlace(room);
        x.addDoor(1, 0, 9, 1);
        for (int share : shares) {
            int place = x.addPlace(30);
            x.addDoor(place, 1, 9, share);
        }
        return x;
    }

    /** With people everywhere, releases ahead, a closed door and steps behind it, so that any change shows. */
    static Stairflow busy() {
        Stairflow x = new Stairflow();
        x.addPlace(12);
        x.addPlace(30);
        x.addPlace(7);
        x.addPlace(20);
        x.addDoor(1, 0, 2, 3);
        x.addDoor(2, 1, 4, 2);
        x.addDoor(3, 1, 3, 1);
        x.addDoor(3, 2, 5, 5);
        x.addDoor(4, 0, 9, 4);
        x.come(1, 3);
        x.come(2, 20);
        x.come(3, 7);
        x.come(4, 2);
        x.setRelease(0, 1);
        x.setRelease(2, 3);
        x.setRelease(4, 40);
        x.step(2);
        x.setDoor(2, false);
        return x;
    }

    /** One of many benches by its number: every place has a way, and most have people and some a release. */
    static Stairflow someBench(int number) {
        Stairflow x = new Stairflow();
        long seed = number;
        int inside = 1 + number % 10;
        for (int place = 1; place <= inside; place++) {
            seed = seed * 6364136223846793005L + 1442695040888963407L;
            int some = (int) (seed >>> 33);
            int room = 1 + some % 30;
            x.addPlace(room);
            x.addDoor(place, some / 30 % place, 1 + some / 300 % 9, 1 + some / 2700 % 5);
            if (place <= 5) {
                x.addDoor(place, some / 7 % place, 1 + some / 11 % 9, 1);
            }
            if (some / 13500 % 4 > 0) {
                x.come(place, 1 + some / 54000 % room);
            }
            if (some / 17 % 8 == 0) {
                x.setRelease(place, some / 19 % 20);
            }
        }
        return x;
    }

    /** As many places as there can be, each with people and a door to the outside. */
    static Stairflow withAllPlaces() {
        Stairflow x = places(10);
        for (int place = 1; place <= 10; place++) {
            x.addDoor(place, 0, 1, 1);
            x.come(place, place);
        }
        return x;
    }

    /** As many doors as there can be, between the outside and two places. */
    static Stairflow withAllDoors() {
        Stairflow x = places(2);
        for (int door = 0; door < 16; door++) {
            x.addDoor(door % 2 + 1, 0, 2, 3);
        }
        x.come(1, 11);
        x.come(2, 12);
        return x;
    }
}
