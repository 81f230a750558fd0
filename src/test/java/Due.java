/** Answers held against what is due; a test ends with exit code 1 if one of them was wrong. */
final class Due {
    private int seen;
    private int wrong;

    void is(String call, int got, int due) {
        seen++;
        if (got != due) {
            wrong++;
            System.out.println(call + " answered " + got + ", due is " + due);
        }
    }

    void holds(String what, boolean is) {
        seen++;
        if (!is) {
            wrong++;
            System.out.println(what);
        }
    }

    void end(String test) {
        System.out.println(test + ": " + seen + " answers, " + wrong + " wrong");
        if (wrong != 0 || seen == 0) {
            System.exit(1);
        }
    }

    /** All that a call can be asked of an object without changing it, as one text. */
    static String look(AtticStars x) {
        StringBuilder all = new StringBuilder();
        for (int what = 0; what < 8; what++) {
            all.append(x.count(what)).append(' ').append(x.town(what)).append(' ');
            for (int i = 0; i < 8; i++) {
                all.append(x.told(i, what)).append(' ').append(x.starOf(i, what)).append(' ');
            }
        }
        for (int bearing = 0; bearing < 24; bearing++) {
            all.append(x.smokes(bearing)).append(' ');
        }
        for (int text = 0; text < 14; text++) {
            all.append(x.textTold(text, 0)).append(' ').append(x.textTold(text, 1)).append(' ');
        }
        return all.append(x.fee()).append(' ').append(x.why(0)).append(' ')
            .append(x.why(1)).append(' ').append(x.why(2)).toString();
    }

    /** Puts a text on the tape, byte by byte as it stands, and nothing behind it. */
    static void write(AtticStars x, String text) {
        int[] three = new int[3];
        int before = x.count(6);
        for (int from = 0; from < text.length(); from += 12) {
            for (int i = 0; i < 3; i++) {
                three[i] = 0;
                for (int j = 0; j < 4; j++) {
                    int place = from + 4 * i + j;
                    three[i] = three[i] << 8 | (place < text.length() ? text.charAt(place) & 255 : 0);
                }
            }
            x.feed(three[0], three[1], three[2]);
        }
        x.trim(before + text.length());
    }

    static int law(AtticStars x, String text) {
        write(x, text);
        return x.text();
    }
}
