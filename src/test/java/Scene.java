/** Pictures drawn as rows of '#' (black) and '.', and bytes written in hexadecimal. */
final class Scene {
    private Scene() {
    }

    static String[] rows(String... rows) {
        return rows;
    }

    /** An object with that picture, and with a reference that lies on it unmoved. */
    static RefineRegions of(int template, boolean typical, String[] picture, String[] reference) {
        RefineRegions x = new RefineRegions();
        x.shape(picture[0].length(), picture.length, template, typical);
        draw(x, picture);
        refer(x, reference);
        return x;
    }

    /** A white picture, and a white reference of one pixel. */
    static RefineRegions white(int width, int height, int template, boolean typical) {
        RefineRegions x = new RefineRegions();
        x.shape(width, height, template, typical);
        x.reference(1, 1);
        return x;
    }

    static void draw(RefineRegions x, String... picture) {
        for (int v = 0; v < picture.length; v++) {
            for (int u = 0; u < picture[v].length(); u++) {
                if (picture[v].charAt(u) == '#') {
                    x.put(u, v, true);
                }
            }
        }
    }

    static void refer(RefineRegions x, String... reference) {
        x.reference(reference[0].length(), reference.length);
        for (int v = 0; v < reference.length; v++) {
            for (int u = 0; u < reference[v].length(); u++) {
                if (reference[v].charAt(u) == '#') {
                    x.refer(u, v, true);
                }
            }
        }
    }

    static void feed(RefineRegions x, String hex) {
        for (String one : hex.split(" ")) {
            x.feed(1, Long.parseLong(one, 16));
        }
    }

    static String bytes(RefineRegions x) {
        StringBuilder hex = new StringBuilder();
        int count = x.told(0);
        for (int i = 0; i < count; i++) {
            hex.append(i == 0 ? "" : " ").append(String.format("%02X", x.byteAt(i)));
        }
        return hex.toString();
    }

    /** What was read, the rows parted by blanks; what is neither 0 nor 1 shows as '?'. */
    static String found(RefineRegions x, int width, int height) {
        StringBuilder drawn = new StringBuilder();
        for (int v = 0; v < height; v++) {
            drawn.append(v == 0 ? "" : " ");
            for (int u = 0; u < width; u++) {
                int pixel = x.at(u, v);
                drawn.append(pixel == 1 ? '#' : pixel == 0 ? '.' : '?');
            }
        }
        return drawn.toString();
    }

    /** What encode() makes of it. */
    static String coded(String[] picture, String[] reference) {
        RefineRegions x = of(0, false, picture, reference);
        x.encode();
        return bytes(x);
    }

    /** What decode() makes of bytes, with template 0 and a white reference, and B behind it. */
    static String read(int width, int height, String hex) {
        RefineRegions x = white(width, height, 0, false);
        feed(x, hex);
        x.decode();
        return found(x, width, height) + " B " + x.told(4);
    }
}
