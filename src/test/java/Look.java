/** All that an object tells without being changed, as one text. */
final class Look {
    private Look() {
    }

    /** What is so: the QUARTER, its PERSONS, THINGS and BEDS, and the SENTENCE. */
    static String state(CombedOut x) {
        StringBuilder text = new StringBuilder("counts");
        for (int what = 0; what <= 4; what++) {
            text.append(' ').append(x.count(what));
        }
        text.append("; now");
        for (int what = 0; what <= 6; what++) {
            text.append(' ').append(x.now(what));
        }
        for (int p = 0; p < x.count(1); p++) {
            text.append("; person ").append(Check.row(x, p));
            for (int what = 0; what <= 5; what++) {
                text.append(' ').append(Check.person(x, p, what));
            }
        }
        for (int t = 0; t < x.count(0); t++) {
            text.append("; thing");
            for (int what = 0; what <= 4; what++) {
                text.append(' ').append(x.thing(t, what));
            }
        }
        for (int b = 0; b < x.count(3); b++) {
            text.append("; bed");
            for (int what = 0; what <= 3; what++) {
                text.append(' ').append(x.bed(b, what));
            }
        }
        return text.append("; said ").append(x.said(-1)).append(' ').append(x.said(0)).toString();
    }

    /** What is so, and what calls told last. */
    static String at(CombedOut x) {
        StringBuilder text = new StringBuilder(state(x)).append("; last ").append(x.rounded()).append(' ').append(x.bedded())
            .append(' ').append(x.ask()).append("; told");
        for (int what = 0; what <= 3; what++) {
            text.append(' ').append(x.told(what));
        }
        text.append("; TAG ");
        for (int i = 0; x.byteAt(i) != CombedOut.NONE; i++) {
            text.append((char) x.byteAt(i));
        }
        return text.append("; tape ").append(x.count(5)).toString();
    }
}
