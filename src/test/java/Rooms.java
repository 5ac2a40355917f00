/** Short ways to bring a room to a state. */
final class Rooms {
    private Rooms() {
    }

    /** Feeds a text, eight bytes at a time, and answers what the last feed() did. */
    static int feed(BufferRoom room, String text) {
        int answer = 0;
        for (int i = 0; i < text.length(); i += 8) {
            int n = Math.min(8, text.length() - i);
            long w = 0;
            for (int k = 0; k < n; k++) {
                w = w << 8 | text.charAt(i + k) & 255;
            }
            answer = room.feed(w, n);
        }
        return answer;
    }

    static int take(BufferRoom room, String text) {
        feed(room, text);
        return room.program();
    }

    static BufferRoom with(String text) {
        BufferRoom room = new BufferRoom();
        if (take(room, text) < 0) {
            throw new IllegalStateException("a test's program is not one: " + text);
        }
        return room;
    }

    /** Makes a SHEET of ints. */
    static void ints(BufferRoom room, int s, int... numbers) {
        room.sheet(s, 2, numbers.length);
        for (int i = 0; i < numbers.length; i++) {
            room.cell(s, i, numbers[i]);
        }
    }

    static int order(BufferRoom room, int... steps) {
        ints(room, 3, steps);
        return room.order(3);
    }

    static int height(BufferRoom room, int... buffers) {
        ints(room, 3, buffers);
        return room.height(3);
    }

    static int sendOut(BufferRoom room, int size, int rate, int... buffers) {
        ints(room, 3, buffers);
        return room.sendOut(3, size, rate);
    }

    /** Where each of the first n BUFFERS lies as one goes. */
    static int[] lying(BufferRoom room, int n) {
        int[] places = new int[n];
        for (int b = 0; b < n; b++) {
            places[b] = room.roomTold(3, b);
        }
        return places;
    }

    static int[] loads(BufferRoom room) {
        int[] loads = new int[room.count(0)];
        for (int k = 0; k < loads.length; k++) {
            loads[k] = room.load(k);
        }
        return loads;
    }

    static int[] orderTold(BufferRoom room) {
        int[] steps = new int[room.count(0)];
        for (int k = 0; k < steps.length; k++) {
            steps[k] = room.orderTold(k);
        }
        return steps;
    }
}
