import java.nio.ByteBuffer;
import java.util.HexFormat;

/** The bytes of rows, written out as hexadecimal digits, against what hash, digest and sign answer. */
final class Bytes {
    private Bytes() {
    }

    static void are(Check check, String what, SignQuorum x, int row, String hex) {
        check.same(what + ": how many bytes", x.hash(row), hex.length() / 2);
        digestIs(check, what, x, hex);
    }

    static void digestIs(Check check, String what, SignQuorum x, String hex) {
        byte[] due = Model.sha256(HexFormat.of().parseHex(hex));
        for (int i = 0; i < 32; i++) {
            check.same(what + ": digest(" + i + ")", x.digest(i), due[i]);
        }
    }

    static long signature(long secret, String hex) {
        String all = HexFormat.of().toHexDigits(secret) + hex;
        return ByteBuffer.wrap(Model.sha256(HexFormat.of().parseHex(all))).getLong();
    }

    /** What stands in front of every row's own part, where it has no octets. */
    static String head(int role, int version, long until) {
        return octetHead(role, version, until, "");
    }

    static String octetHead(int role, int version, long until, String octets) {
        HexFormat hex = HexFormat.of();
        return hex.toHexDigits((byte) role) + hex.toHexDigits(version) + hex.toHexDigits(until)
            + hex.toHexDigits((byte) (octets.length() / 2)) + octets;
    }
}
