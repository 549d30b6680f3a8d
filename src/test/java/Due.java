import java.nio.charset.StandardCharsets;
import java.util.Arrays;
import java.util.NoSuchElementException;

/** What the tests share: answers held against those due, and texts fed to an office. */
final class Due {
    static final int OUT_OF_BOUNDS = 1;
    static final int NO_ELEMENT = 2;

    private int wrong;

    void due(String call, long got, long want) {
        if (got != want) {
            wrong++;
            System.out.println(call + " answered " + got + ", due is " + want);
        }
    }

    void due(String call, boolean got, boolean want) {
        due(call, got ? 1 : 0, want ? 1 : 0);
    }

    void dueTime(BirdOffice office, int flight, int k, long upper, long lower) {
        String call = "time(" + flight + ", " + k + ")";
        due(call + " throws", thrownByTime(office, flight, k, 0), 0);
        if (thrownByTime(office, flight, k, 0) == 0) {
            due(call + " upper", office.time(flight, k, 0), upper);
            due(call + " lower", office.time(flight, k, 1), lower);
        }
    }

    void dueThrown(BirdOffice office, int flight, int k, int what, int want) {
        due("time(" + flight + ", " + k + ", " + what + ") throws",
                thrownByTime(office, flight, k, what), want);
    }

    static int thrownByTime(BirdOffice office, int flight, int k, int what) {
        try {
            office.time(flight, k, what);
            return 0;
        } catch (IndexOutOfBoundsException e) {
            return e.getClass() == IndexOutOfBoundsException.class ? OUT_OF_BOUNDS : 3;
        } catch (NoSuchElementException e) {
            return e.getClass() == NoSuchElementException.class ? NO_ELEMENT : 4;
        }
    }

    /** The result's rows as they should be told: bird, place, strike of each. */
    void dueResult(BirdOffice office, int flight, int list, int day, int... rows) {
        String call = "result(" + flight + ", " + list + ", " + day + ")";
        due(call, office.result(flight, list, day), rows.length / 3);
        for (int i = 0; i < rows.length; i++) {
            due(call + " row(" + i / 3 + ", " + i % 3 + ")", office.row(i / 3, i % 3), rows[i]);
        }
        due(call + " row behind the last", office.row(rows.length / 3, 0), BirdOffice.NONE);
    }

    void dueFault(BirdOffice office, String text, int kind, int place) {
        due("lists of [" + text + "]", tellLists(office, text), BirdOffice.NONE);
        due("fault(0) of [" + text + "]", office.fault(0), kind);
        due("fault(1) of [" + text + "]", office.fault(1), place);
    }

    void dueLists(BirdOffice office, String text, int count) {
        due("lists of [" + text + "]", tellLists(office, text), count);
        due("fault(0) of [" + text + "]", office.fault(0), 0);
        due("fault(1) of [" + text + "]", office.fault(1), BirdOffice.NONE);
    }

    /** A text is fed as its Latin bytes, filled up by bytes that no text may have. */
    static int feedText(BirdOffice office, String text) {
        byte[] bytes = text.getBytes(StandardCharsets.ISO_8859_1);
        byte[] full = Arrays.copyOf(bytes, (bytes.length + 19) / 20 * 20);
        Arrays.fill(full, bytes.length, full.length, (byte) '?');
        int size = 0;
        for (int i = 0; i < full.length; i += 20) {
            size = office.feed(number(full, i), number(full, i + 4), number(full, i + 8),
                    number(full, i + 12), number(full, i + 16));
        }
        return size;
    }

    static int tellLists(BirdOffice office, String text) {
        feedText(office, text);
        return office.lists(text.length());
    }

    private static int number(byte[] bytes, int at) {
        return (bytes[at] & 255) << 24 | (bytes[at + 1] & 255) << 16 | (bytes[at + 2] & 255) << 8
                | bytes[at + 3] & 255;
    }

    void end() {
        System.out.println(wrong == 0 ? "all answers are as due" : wrong + " answers are not as due");
        if (wrong != 0) {
            System.exit(1);
        }
    }
}
