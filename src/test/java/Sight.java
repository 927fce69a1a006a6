/** All that can be seen of an object, as a text. It takes some 250 calls of the object's 512. */
final class Sight {
    private Sight() {
    }

    static String of(MoreEven x) {
        StringBuilder text = new StringBuilder();
        for (int town = 0; town < 4; town++) {
            for (int family = 0; family < x.town(town, 0); family++) {
                for (int what = 0; what < 4; what++) {
                    text.append(x.about(town, family, what)).append(' ');
                }
                text.append("; ");
            }
            text.append("| ");
        }
        text.append("bands ").append(x.count(2)).append(", taking");
        for (int has = 0; has < 100; has++) {
            text.append(' ').append(x.tax(has));
        }
        return text.toString();
    }
}
