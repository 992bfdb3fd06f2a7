import java.util.function.IntSupplier;

/** What a bench answers, as one text. */
final class Snapshot {
    private Snapshot() {
    }

    /** All that the bench answers without being changed; the calls that it may refuse come last. */
    static String of(Stairflow x) {
        StringBuilder text = new StringBuilder();
        text.append("places ").append(x.places()).append(" doors ").append(x.doors());
        text.append(" now ").append(x.now()).append(" inside ").append(x.inside());
        text.append(" waited ").append(x.waited()).append(" trapped ").append(x.trapped());
        for (int place = 0; place < x.places(); place++) {
            text.append(" | place ").append(place).append(" people ").append(x.people(place));
            text.append(" wouldMove ").append(x.wouldMove(place));
        }
        for (int door = 0; door < x.doors(); door++) {
            text.append(" | door ").append(door).append(" passed ").append(x.passed(door));
        }
        text.append(" | latest ").append(answer(x::latest)).append(" bound ").append(answer(x::bound));
        for (int i = 0; i < x.places(); i++) {
            int place = i;
            text.append(" | place ").append(place);
            text.append(" distance ").append(answer(() -> x.distance(place)));
            text.append(" door ").append(answer(() -> x.door(place)));
        }
        return text.toString();
    }

    /**
     * The same, and what comes when the bench goes on: this shows rooms, releases, flows, shares and open doors too.
     * It changes the bench, and takes fewer than 400 calls.
     */
    static String withFuture(Stairflow x) {
        StringBuilder text = new StringBuilder(of(x));
        text.append("\n then step ").append(x.step(1));
        for (int place = 0; place < x.places(); place++) {
            text.append(" release ").append(x.setRelease(place, 0));
        }
        for (int door = 0; door < x.doors(); door++) {
            text.append(" open ").append(x.setDoor(door, true));
        }
        for (int i = 1; i < x.places(); i++) {
            int place = i;
            for (int people = 16; people >= 1; people /= 2) {
                int some = people;
                text.append(" come ").append(answer(() -> x.come(place, some)));
            }
        }
        text.append(" new door ").append(answer(() -> x.addDoor(0, 1, 1, 1)));
        text.append(" new place ").append(answer(() -> x.addPlace(1)));
        text.append("\n then ").append(of(x));
        text.append("\n then step ").append(x.step(2)).append(' ').append(of(x));
        return text.toString();
    }

    static String answer(IntSupplier call) {
        try {
            return Integer.toString(call.getAsInt());
        } catch (RuntimeException e) {
            return e.getClass().getSimpleName();
        }
    }
}
