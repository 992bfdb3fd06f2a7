import java.util.ArrayList;
import java.util.List;
import java.util.NoSuchElementException;

/** The document's words once more, held in objects and worked out anew at every call, to compare with. */
final class Model {
    private static final class Place {
        int room;
        int people;
        int release;
    }

    private static final class Door {
        Place[] ends;
        int flow;
        int share;
        boolean open = true;
        int passed;
        int wish;
        int granted;
    }

    private final List<Place> places = new ArrayList<>();
    private final List<Door> doors = new ArrayList<>();
    private int now;
    private int latest;
    private int waited;

    Model() {
        places.add(new Place());
    }

    int addPlace(int room) {
        argument(room >= 1 && room <= 30);
        state(places.size() <= 10);
        Place place = new Place();
        place.room = room;
        places.add(place);
        return places.size() - 1;
    }

    int addDoor(int one, int other, int flow, int share) {
        Door door = new Door();
        door.ends = new Place[] {place(one), place(other)};
        argument(one != other);
        argument(flow >= 1 && flow <= 9);
        argument(share >= 1 && share <= 5);
        state(doors.size() < 16);
        door.flow = flow;
        door.share = share;
        doors.add(door);
        return doors.size() - 1;
    }

    int setDoor(int number, boolean open) {
        Door door = doorNumbered(number);
        int before = door.open ? 1 : 0;
        door.open = open;
        return before;
    }

    int come(int number, int people) {
        Place place = place(number);
        argument(number != 0);
        argument(people >= 1 && people <= 30);
        state(place.people + people <= place.room);
        place.people += people;
        return place.people;
    }

    int setRelease(int number, int time) {
        Place place = place(number);
        argument(time >= 0 && time <= 1000);
        int before = place.release;
        place.release = time;
        return before;
    }

    int places() {
        return places.size();
    }

    int doors() {
        return doors.size();
    }

    int step(int steps) {
        argument(steps >= 1 && steps <= 50);
        int before = people(0);
        for (int i = 0; i < steps; i++) {
            oneStep();
        }
        return people(0) - before;
    }

    int clear() {
        for (int steps = 0; steps < 300; steps++) {
            if (inside() == 0) {
                return steps;
            }
            int start = now;
            if (oneStep() == 0 && places.stream().allMatch(place -> place.release <= start)) {
                return steps + 1;
            }
        }
        return 300;
    }

    int now() {
        return now;
    }

    int people(int place) {
        return place(place).people;
    }

    int inside() {
        return places.stream().mapToInt(place -> place.people).sum() - places.get(0).people;
    }

    int latest() {
        element(places.get(0).people > 0);
        return latest;
    }

    int passed(int door) {
        return doorNumbered(door).passed;
    }

    int waited() {
        return waited;
    }

    int distance(int number) {
        int distance = distanceOf(place(number));
        element(distance >= 0);
        return distance;
    }

    int door(int number) {
        Door door = doorOf(place(number));
        element(door != null);
        return doors.indexOf(door);
    }

    int trapped() {
        return places.stream().filter(place -> distanceOf(place) < 0).mapToInt(place -> place.people).sum();
    }

    int wouldMove(int number) {
        Door door = doorOf(place(number));
        if (door == null) {
            return 0;
        }
        grant();
        return door.granted;
    }

    int bound() {
        state(trapped() == 0);
        int greatest = 0;
        for (int d = 1; d <= 10; d++) {
            int p = 0;
            int f = 0;
            for (Place place : places) {
                p += distanceOf(place) >= d ? place.people : 0;
            }
            for (Door door : doors) {
                int one = distanceOf(door.ends[0]);
                int other = distanceOf(door.ends[1]);
                if (door.open && Math.max(one, other) == d && Math.min(one, other) == d - 1) {
                    f += door.flow;
                }
            }
            if (p != 0) {
                greatest = Math.max(greatest, d - 1 + (int) Math.ceil(p / (double) f));
            }
        }
        return greatest;
    }

    /** Breadth first from the place; -1 if the outside is not found. */
    private int distanceOf(Place from) {
        List<Place> seen = new ArrayList<>();
        List<Integer> far = new ArrayList<>();
        seen.add(from);
        far.add(0);
        for (int i = 0; i < seen.size(); i++) {
            if (seen.get(i) == places.get(0)) {
                return far.get(i);
            }
            for (Door door : doors) {
                Place next = beyond(door, seen.get(i));
                if (next != null && !seen.contains(next)) {
                    seen.add(next);
                    far.add(far.get(i) + 1);
                }
            }
        }
        return -1;
    }

    /** The place behind an open door of this place, or null. */
    private Place beyond(Door door, Place from) {
        if (!door.open || door.ends[0] != from && door.ends[1] != from) {
            return null;
        }
        return door.ends[0] == from ? door.ends[1] : door.ends[0];
    }

    private Door doorOf(Place place) {
        int distance = distanceOf(place);
        if (distance < 1) {
            return null;
        }
        for (Door door : doors) {
            Place next = beyond(door, place);
            if (next != null && distanceOf(next) == distance - 1) {
                return door;
            }
        }
        return null;
    }

    private void grant() {
        for (Door door : doors) {
            door.wish = 0;
            door.granted = 0;
        }
        for (Place place : places) {
            Door door = doorOf(place);
            if (door != null && place.release <= now) {
                door.wish = Math.min(place.people, door.flow);
            }
        }
        for (Place target : places) {
            int room = target == places.get(0) ? 1000 : target.room - target.people;
            for (int round = 0; round < 1000; round++) {
                for (Door door : doors) {
                    if (leads(door, target)) {
                        int more = Math.min(door.share, Math.min(door.wish, room));
                        door.wish -= more;
                        door.granted += more;
                        room -= more;
                    }
                }
                if (room == 0 || doors.stream().allMatch(door -> door.wish == 0 || !leads(door, target))) {
                    break;
                }
            }
        }
    }

    private boolean leads(Door door, Place target) {
        return places.stream().anyMatch(place -> doorOf(place) == door && beyond(door, place) == target);
    }

    private int oneStep() {
        grant();
        List<Place> from = new ArrayList<>();
        for (Door door : doors) {
            from.add(places.stream().filter(place -> doorOf(place) == door).findFirst().orElse(null));
        }
        int moved = 0;
        for (int i = 0; i < doors.size(); i++) {
            Door door = doors.get(i);
            if (door.granted > 0) {
                Place to = beyond(door, from.get(i));
                from.get(i).people -= door.granted;
                to.people += door.granted;
                door.passed += door.granted;
                moved += door.granted;
                latest = to == places.get(0) ? now + 1 : latest;
            }
        }
        now++;
        waited += inside();
        return moved;
    }

    private Place place(int number) {
        if (number < 0 || number >= places.size()) {
            throw new IndexOutOfBoundsException();
        }
        return places.get(number);
    }

    private Door doorNumbered(int number) {
        if (number < 0 || number >= doors.size()) {
            throw new IndexOutOfBoundsException();
        }
        return doors.get(number);
    }

    private static void argument(boolean holds) {
        if (!holds) {
            throw new IllegalArgumentException();
        }
    }

    private static void state(boolean holds) {
        if (!holds) {
            throw new IllegalStateException();
        }
    }

    private static void element(boolean holds) {
        if (!holds) {
            throw new NoSuchElementException();
        }
    }
}
