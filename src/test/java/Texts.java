import java.nio.charset.StandardCharsets;

/** Brings a text onto a TAPE: twenty bytes a call, cut behind to its length. */
final class Texts {
    private static final int FED = 20;

    private Texts() {
    }

    static int number(byte[] bytes, int from) {
        int number = 0;
        for (int i = from; i < from + 4; i++) {
            number = number << 8 | (i < bytes.length ? bytes[i] & 255 : ' ');
        }
        return number;
    }

    static void feed(LotHouse x, String text) {
        byte[] bytes = text.getBytes(StandardCharsets.ISO_8859_1);
        int before = x.about(4);
        for (int i = 0; i < bytes.length; i += FED) {
            x.feed(number(bytes, i), number(bytes, i + 4), number(bytes, i + 8), number(bytes, i + 12),
                number(bytes, i + 16));
        }
        x.end(before + bytes.length);
    }

    static int land(LotHouse x, String text) {
        x.end(0);
        feed(x, text);
        return x.land();
    }
}
