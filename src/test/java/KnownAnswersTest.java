import java.nio.charset.StandardCharsets;

/** Values that are published for the hash that the document describes, so that no misreading is shared. */
public final class KnownAnswersTest {
    private static final Due due = new Due("KnownAnswersTest");

    public static void main(String[] args) {
        text("", "af1349b9f5f9a1a6a0404dea36dcc9499bcb25c9adc112b7cc9a93cae41f3262");
        text("abc", "6437b3ac38465133ffb63b75273a8db548c558465d79db03fd359c6cd5bd9d85");
        pattern(1, "2d3adedff11b61f14c886e35afa036736dcd87a74d27b5c1510225d0f592e213");
        pattern(1023, "10108970eeda3eb932baac1428c7a2163b0e924c9a9e25b35bba72b28f70bd11");
        pattern(1024, "42214739f095a406f3fc83deb889744ac00df831c10daa55189b5d121c855af7");
        pattern(1025, "d00278ae47eb27b34faecf67b4fe263f82d5412916c1ffd97c8cb7fb814b8444");
        pattern(2048, "e776b6028c7cd22a4d0ba182a8bf62205d2ef576467e838ed6f2529b85fba24a");
        keyed();
        context();
        longOutput();
        due.end();
    }

    private static void keyed() {
        TreeHashes x = new TreeHashes();
        Due.put(x, 0, "whats the Elvish word for friend".getBytes(StandardCharsets.ISO_8859_1));
        x.begin(1, 1, 0);
        x.output(1, 2, 32, 0);
        due.is("keyed, of nothing", Due.hex(x, 2),
            "92b2b75604ed3c761f9d6f62392c8a9227ad0ea3f09573e783f1498a4ed60d26");
        x.fill(1, 1, 0, 0);
        x.output(1, 2, 32, 0);
        due.is("keyed, of one byte", Due.hex(x, 2),
            "6d7878dfff2f485635d39013278ae14f1454b8c0a3a2d34bc1ab38228a80c95b");
    }

    private static void context() {
        TreeHashes x = new TreeHashes();
        String context = "BLAKE3 2019-12-27 16:29:52 test vectors context";
        Due.put(x, 0, context.getBytes(StandardCharsets.ISO_8859_1));
        x.begin(1, 2, 0);
        x.output(1, 2, 32, 0);
        due.is("of a context, of nothing", Due.hex(x, 2),
            "2cc39783c223154fea8dfb7c1b1660f2ac2dcbd1c1de8277b0b0dd39b7e50d7d");
    }

    private static void longOutput() {
        TreeHashes x = new TreeHashes();
        x.output(0, 0, 131, 0);
        due.is("long output, of nothing", Due.hex(x, 0),
            "af1349b9f5f9a1a6a0404dea36dcc9499bcb25c9adc112b7cc9a93cae41f3262"
            + "e00f03e7b69af26b7faaf09fcd333050338ddfe085b8cc869ca98b206c08243a"
            + "26f5487789e8f660afe6c99ef9e0c52b92e7393024a80459cf91f476f9ffdbda"
            + "7001c22e159b402631f277ca96f2defdf1078282314e763699a31c5363165421"
            + "cce14d");
    }

    private static void text(String text, String want) {
        TreeHashes x = new TreeHashes();
        Due.put(x, 0, text.getBytes(StandardCharsets.ISO_8859_1));
        x.take(0, 0);
        x.output(0, 1, 32, 0);
        due.is("hash of '" + text + "'", Due.hex(x, 1), want);
    }

    /** The published inputs count 0 .. 250 again and again. */
    private static void pattern(int n, String want) {
        TreeHashes x = new TreeHashes();
        for (int taken = 0; taken < n; taken += 251) {
            x.fill(3, Math.min(251, n - taken), 0, 1);
        }
        x.output(3, 7, 32, 0);
        due.is("hash of the pattern of " + n, Due.hex(x, 7), want);
    }
}
