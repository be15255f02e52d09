import java.util.List;

/**
 * All that can be told of an object behind some calls. To tell it spoils the object, so each part of it is told of
 * another one that had the same calls.
 */
final class State {
    /** What each part makes at most. */
    static final int MOST_CALLS = 150;
    private static final int ITEMS_AT_ONCE = 10;

    private State() {
    }

    static String after(List<Script.Call> calls) {
        StringBuilder all = new StringBuilder();
        world(again(calls), all);
        TandemKeepsAPlace kept = again(calls);
        all.append(" image ").append(kept.back());
        world(kept, all);
        texts(again(calls), all);
        for (int sheet = 0; sheet < 4; sheet++) {
            all.append(" sheet");
            int size = size(again(calls), sheet, all);
            for (int i = 0; i < size; i += ITEMS_AT_ONCE) {
                items(again(calls), sheet, i, Math.min(size, i + ITEMS_AT_ONCE), all);
            }
        }
        return all.toString();
    }

    private static TandemKeepsAPlace again(List<Script.Call> calls) {
        TandemKeepsAPlace x = new TandemKeepsAPlace();
        for (Script.Call call : calls) {
            call.on(x);
        }
        return x;
    }

    private static void world(TandemKeepsAPlace x, StringBuilder all) {
        all.append(" count");
        for (int what = 0; what < 6; what++) {
            all.append(' ').append(x.count(what));
        }
        all.append(" hour ").append(x.told(0, 0)).append(" people");
        for (int one = 0; one < 6; one++) {
            for (int what = 1; what < 5; what++) {
                all.append(' ').append(x.told(one, what));
            }
        }
        all.append(" far ").append(x.far(0, 7)).append(" roads");
        for (int one = 0; one < 8; one++) {
            for (int other = one + 1; other < 8; other++) {
                all.append(' ').append(x.road(one, other, 0));
            }
        }
    }

    /** So that there are 0 and 1 at least. */
    private static void twoCome(TandemKeepsAPlace x) {
        x.person(0, 1, 2);
        x.person(0, 2, 3);
    }

    private static void texts(TandemKeepsAPlace x, StringBuilder all) {
        all.append(" tape ").append(x.text()).append(" texts");
        twoCome(x);
        int known = x.count(3);
        for (int text = 0; text < known; text++) {
            x.force(text);
            for (int what = 0; what < 5; what++) {
                all.append(' ').append(x.asks(0, 1, 3, 1, what)).append(' ').append(x.asks(0, 1, 3, 14, what));
            }
        }
    }

    private static int size(TandemKeepsAPlace x, int sheet, StringBuilder all) {
        if (x.copy(sheet, 0, sheet, 0, 0) < 0) {
            all.append(" missing");
            return 0;
        }
        all.append(" sort ").append(sortOf(x, sheet));
        int size = 40;
        while (size > 0 && x.copy(sheet, size, sheet, size, 0) < 0) {
            size--;
        }
        all.append(" size ").append(size);
        return size;
    }

    private static int sortOf(TandemKeepsAPlace x, int sheet) {
        int sort = 0;
        while (sort < 2 && x.people(sheet, sort, 0, 0) < 0) {
            sort++;
        }
        return sort;
    }

    /** One item alone tells the PLACE where two are behind 0 STEPS, or none. */
    private static void items(TandemKeepsAPlace x, int sheet, int from, int end, StringBuilder all) {
        twoCome(x);
        int other = (sheet + 1) % 4;
        x.sheet(other, sortOf(x, sheet), 1);
        for (int i = from; i < end; i++) {
            x.copy(sheet, i, other, 0, 1);
            int place = 0;
            while (place < 8 && x.tells(other, 1, place, 0) >= 0) {
                place++;
            }
            all.append(' ').append(place < 8 ? place : -1);
        }
    }
}
