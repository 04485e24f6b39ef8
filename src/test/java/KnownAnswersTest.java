import java.nio.charset.StandardCharsets;

/**
 * Values from outside of this project for the hash that the document describes, so that no misreading
 * is shared: the program b3sum 1.2.0 gave them all, for inputs, a key and a context made as those of the
 * hash's published test vectors are.
 */
public final class KnownAnswersTest {
    private static final Due due = new Due("KnownAnswersTest");
    private static final byte[] KEY = bytes("whats the Elvish word for friend");
    private static final byte[] CONTEXT = bytes("BLAKE3 2019-12-27 16:29:52 test vectors context");

    /** How many bytes, and the first 32 bytes of the output in modes 0, 1 and 2. */
    private static final String[][] HASHES = {
        {"0",
            "af1349b9f5f9a1a6a0404dea36dcc9499bcb25c9adc112b7cc9a93cae41f3262",
            "92b2b75604ed3c761f9d6f62392c8a9227ad0ea3f09573e783f1498a4ed60d26",
            "2cc39783c223154fea8dfb7c1b1660f2ac2dcbd1c1de8277b0b0dd39b7e50d7d"},
        {"1",
            "2d3adedff11b61f14c886e35afa036736dcd87a74d27b5c1510225d0f592e213",
            "6d7878dfff2f485635d39013278ae14f1454b8c0a3a2d34bc1ab38228a80c95b",
            "b3e2e340a117a499c6cf2398a19ee0d29cca2bb7404c73063382693bf66cb06c"},
        {"3",
            "e1be4d7a8ab5560aa4199eea339849ba8e293d55ca0a81006726d184519e647f",
            "39e67b76b5a007d4921969779fe666da67b5213b096084ab674742f0d5ec62b9",
            "440aba35cb006b61fc17c0529255de438efc06a8c9ebf3f2ddac3b5a86705797"},
        {"63",
            "e9bc37a594daad83be9470df7f7b3798297c3d834ce80ba85d6e207627b7db7b",
            "bb1eb5d4afa793c1ebdd9fb08def6c36d10096986ae0cfe148cd101170ce37ae",
            "b6451e30b953c206e34644c6803724e9d2725e0893039cfc49584f991f451af3"},
        {"64",
            "4eed7141ea4a5cd4b788606bd23f46e212af9cacebacdc7d1f4c6dc7f2511b98",
            "ba8ced36f327700d213f120b1a207a3b8c04330528586f414d09f2f7d9ccb7e6",
            "a5c4a7053fa86b64746d4bb688d06ad1f02a18fce9afd3e818fefaa7126bf73e"},
        {"65",
            "de1e5fa0be70df6d2be8fffd0e99ceaa8eb6e8c93a63f2d8d1c30ecb6b263dee",
            "c0a4edefa2d2accb9277c371ac12fcdbb52988a86edc54f0716e1591b4326e72",
            "51fd05c3c1cfbc8ed67d139ad76f5cf8236cd2acd26627a30c104dfd9d3ff8a8"},
        {"128",
            "f17e570564b26578c33bb7f44643f539624b05df1a76c81f30acd548c44b45ef",
            "b04fe15577457267ff3b6f3c947d93be581e7e3a4b018679125eaf86f6a628ec",
            "81720f34452f58a0120a58b6b4608384b5c51d11f39ce97161a0c0e442ca0225"},
        {"129",
            "683aaae9f3c5ba37eaaf072aed0f9e30bac0865137bae68b1fde4ca2aebdcb12",
            "d4a64dae6cdccbac1e5287f54f17c5f985105457c1a2ec1878ebd4b57e20d38f",
            "938d2d4435be30eafdbb2b7031f7857c98b04881227391dc40db3c7b21f41fc1"},
        {"1023",
            "10108970eeda3eb932baac1428c7a2163b0e924c9a9e25b35bba72b28f70bd11",
            "c951ecdf03288d0fcc96ee3413563d8a6d3589547f2c2fb36d9786470f1b9d6e",
            "74a16c1c3d44368a86e1ca6df64be6a2f64cce8f09220787450722d85725dea5"},
        {"1024",
            "42214739f095a406f3fc83deb889744ac00df831c10daa55189b5d121c855af7",
            "75c46f6f3d9eb4f55ecaaee480db732e6c2105546f1e675003687c31719c7ba4",
            "7356cd7720d5b66b6d0697eb3177d9f8d73a4a5c5e968896eb6a689684302706"},
        {"1025",
            "d00278ae47eb27b34faecf67b4fe263f82d5412916c1ffd97c8cb7fb814b8444",
            "357dc55de0c7e382c900fd6e320acc04146be01db6a8ce7210b7189bd664ea69",
            "effaa245f065fbf82ac186839a249707c3bddf6d3fdda22d1b95a3c970379bcb"},
        {"2048",
            "e776b6028c7cd22a4d0ba182a8bf62205d2ef576467e838ed6f2529b85fba24a",
            "879cf1fa2ea0e79126cb1063617a05b6ad9d0b696d0d757cf053439f60a99dd1",
            "7b2945cb4fef70885cc5d78a87bf6f6207dd901ff239201351ffac04e1088a23"},
        {"2049",
            "5f4d72f40d7a5f82b15ca2b2e44b1de3c2ef86c426c95c1af0b6879522563030",
            "9f29700902f7c86e514ddc4df1e3049f258b2472b6dd5267f61bf13983b78dd5",
            "2ea477c5515cc3dd606512ee72bb3e0e758cfae7232826f35fb98ca1bcbdf273"},
        {"3072",
            "b98cb0ff3623be03326b373de6b9095218513e64f1ee2edd2525c7ad1e5cffd2",
            "044a0e7b172a312dc02a4c9a818c036ffa2776368d7f528268d2e6b5df191770",
            "050df97f8c2ead654d9bb3ab8c9178edcd902a32f8495949feadcc1e0480c46b"},
        {"3073",
            "7124b49501012f81cc7f11ca069ec9226cecb8a2c850cfe644e327d22d3e1cd3",
            "68dede9bef00ba89e43f31a6825f4cf433389fedae75c04ee9f0cf16a427c95a",
            "72613c9ec9ff7e40f8f5c173784c532ad852e827dba2bf85b2ab4b76f7079081"},
        {"4097",
            "9b4052b38f1c5fc8b1f9ff7ac7b27cd242487b3d890d15c96a1c25b8aa0fb995",
            "00df940cd36bb9fa7cbbc3556744e0dbc8191401afe70520ba292ee3ca80abbc",
            "aca51029626b55fda7117b42a7c211f8c6e9ba4fe5b7a8ca922f34299500ead8"},
        {"5121",
            "628bd2cb2004694adaab7bbd778a25df25c47b9d4155a55f8fbd79f2fe154cff",
            "6ccf1c34753e7a044db80798ecd0782a8f76f33563accaddbfbb2e0ea4b2d024",
            "b07f01e518e702f7ccb44a267e9e112d403a7b3f4883a47ffbed4b48339b3c34"},
        {"7169",
            "a003fc7a51754a9b3c7fae0367ab3d782dccf28855a03d435f8cfe74605e7817",
            "ed9b1a922c046fdb3d423ae34e143b05ca1bf28b710432857bf738bcedbfa511",
            "554b0a5efea9ef183f2f9b931b7497995d9eb26f5c5c6dad2b97d62fc5ac31d9"},
        {"8193",
            "bab6c09cb8ce8cf459261398d2e7aef35700bf488116ceb94a36d0f5f1b7bc3b",
            "954a2a75420c8d6547e3ba5b98d963e6fa6491addc8c023189cc519821b4a1f5",
            "af1e0346e389b17c23200270a64aa4e1ead98c61695d917de7d5b00491c9b0f1"},
        {"16384",
            "f875d6646de28985646f34ee13be9a576fd515f76b5b0a26bb324735041ddde4",
            "9e9fc4eb7cf081ea7c47d1807790ed211bfec56aa25bb7037784c13c4b707b0d",
            "160e18b5878cd0df1c3af85eb25a0db5344d43a6fbd7a8ef4ed98d0714c3f7e1"},
        {"31744",
            "62b6960e1a44bcc1eb1a611a8d6235b6b4b78f32e7abc4fb4c6cdcce94895c47",
            "efa53b389ab67c593dba624d898d0f7353ab99e4ac9d42302ee64cbf9939a419",
            "39772aef80e0ebe60596361e45b061e8f417429d529171b6764468c22928e28e"},
        {"40000",
            "ccd32b4544a24c50fbefb249e10a8fcedc26e2794c79eb8a44ad0631bf07f53f",
            "c0700b8b34e04575a89b429d44ac728d04c58f6c77308d76ace701d7674a4afc",
            "cceee68d6323680584f52b8218b43bea5dd4dd2016a4ebff6aa936252f5dd9d5"}
    };

    /** How many bytes, the mode, and the first 131 bytes of the output. */
    private static final String[][] LONG_OUTPUTS = {
        {"0", "0",
            "af1349b9f5f9a1a6a0404dea36dcc9499bcb25c9adc112b7cc9a93cae41f3262"
            + "e00f03e7b69af26b7faaf09fcd333050338ddfe085b8cc869ca98b206c08243a"
            + "26f5487789e8f660afe6c99ef9e0c52b92e7393024a80459cf91f476f9ffdbda"
            + "7001c22e159b402631f277ca96f2defdf1078282314e763699a31c5363165421"
            + "cce14d"},
        {"0", "1",
            "92b2b75604ed3c761f9d6f62392c8a9227ad0ea3f09573e783f1498a4ed60d26"
            + "b18171a2f22a4b94822c701f107153dba24918c4bae4d2945c20ece13387627d"
            + "3b73cbf97b797d5e59948c7ef788f54372df45e45e4293c7dc18c1d41144a975"
            + "8be58960856be1eabbe22c2653190de560ca3b2ac4aa692a9210694254c371e8"
            + "51bc8f"},
        {"0", "2",
            "2cc39783c223154fea8dfb7c1b1660f2ac2dcbd1c1de8277b0b0dd39b7e50d7d"
            + "905630c8be290dfcf3e6842f13bddd573c098c3f17361f1f206b8cad9d088aa4"
            + "a3f746752c6b0ce6a83b0da81d59649257cdf8eb3e9f7d4998e41021fac119de"
            + "efb896224ac99f860011f73609e6e0e4540f93b273e56547dfd3aa1a035ba668"
            + "9d89a0"},
        {"1025", "0",
            "d00278ae47eb27b34faecf67b4fe263f82d5412916c1ffd97c8cb7fb814b8444"
            + "f4c4a22b4b399155358a994e52bf255de60035742ec71bd08ac275a1b51cc6bf"
            + "e332b0ef84b409108cda080e6269ed4b3e2c3f7d722aa4cdc98d16deb554e562"
            + "7be8f955c98e1d5f9565a9194cad0c4285f93700062d9595adb992ae68ff1280"
            + "0ab67a"},
        {"1025", "1",
            "357dc55de0c7e382c900fd6e320acc04146be01db6a8ce7210b7189bd664ea69"
            + "362396b77fdc0d2634a552970843722066c3c15902ae5097e00ff53f1e116f1c"
            + "d5352720113a837ab2452cafbde4d54085d9cf5d21ca613071551b25d52e69d6"
            + "c81123872b6f19cd3bc1333edf0c52b94de23ba772cf82636cff4542540a7738"
            + "d5b930"},
        {"1025", "2",
            "effaa245f065fbf82ac186839a249707c3bddf6d3fdda22d1b95a3c970379bcb"
            + "5d31013a167509e9066273ab6e2123bc835b408b067d88f96addb550d96b6852"
            + "dad38e320b9d940f86db74d398c770f462118b35d2724efa13da97194491d96d"
            + "d37c3c09cbef665953f2ee85ec83d88b88d11547a6f911c8217cca46defa2751"
            + "e7f3ad"},
        {"31744", "0",
            "62b6960e1a44bcc1eb1a611a8d6235b6b4b78f32e7abc4fb4c6cdcce94895c47"
            + "860cc51f2b0c28a7b77304bd55fe73af663c02d3f52ea053ba43431ca5bab7bf"
            + "ea2f5e9d7121770d88f70ae9649ea713087d1914f7f312147e247f87eb2d4ffe"
            + "f0ac978bf7b6579d57d533355aa20b8b77b13fd09748728a5cc327a8ec470f40"
            + "13226f"},
        {"31744", "1",
            "efa53b389ab67c593dba624d898d0f7353ab99e4ac9d42302ee64cbf9939a419"
            + "3a7258db2d9cd32a7a3ecfce46144114b15c2fcb68a618a976bd74515d47be08"
            + "b628be420b5e830fade7c080e351a076fbc38641ad80c736c8a18fe3c66ce12f"
            + "95c61c2462a9770d60d0f77115bbcd3782b593016a4e728d4c06cee4505cb0c0"
            + "8a42ec"},
        {"31744", "2",
            "39772aef80e0ebe60596361e45b061e8f417429d529171b6764468c22928e28e"
            + "9759adeb797a3fbf771b1bcea30150a020e317982bf0d6e7d14dd9f064bc1102"
            + "5c25f31e81bd78a921db0174f03dd481d30e93fd8e90f8b2fee209f849f2d2a5"
            + "2f31719a490fb0ba7aea1e09814ee912eba111a9fde9d5c274185f7bae8ba85d"
            + "300a2b"}
    };

    public static void main(String[] args) {
        text("", "af1349b9f5f9a1a6a0404dea36dcc9499bcb25c9adc112b7cc9a93cae41f3262");
        text("abc", "6437b3ac38465133ffb63b75273a8db548c558465d79db03fd359c6cd5bd9d85");
        hashesOfEachMode();
        longOutputs();
        outputsFromAnyPlace();
        rootsOfFiles();
        due.end();
    }

    private static byte[] bytes(String text) {
        return text.getBytes(StandardCharsets.ISO_8859_1);
    }

    private static void text(String text, String want) {
        TreeHashes x = new TreeHashes();
        Due.put(x, 0, bytes(text));
        x.take(0, 0);
        x.output(0, 1, 32, 0);
        due.is("hash of '" + text + "'", Due.hex(x, 1), want);
    }

    /** The inputs count 0 .. 250 again and again. */
    private static TreeHashes hashing(int n, int mode) {
        TreeHashes x = new TreeHashes();
        Due.put(x, 5, mode == 1 ? KEY : CONTEXT);
        x.begin(3, mode, 5);
        for (int taken = 0; taken < n; taken += 251) {
            x.fill(3, Math.min(251, n - taken), 0, 1);
        }
        return x;
    }

    private static void hashesOfEachMode() {
        for (String[] row : HASHES) {
            for (int mode = 0; mode <= 2; mode++) {
                TreeHashes x = hashing(Integer.parseInt(row[0]), mode);
                x.output(3, 7, 32, 0);
                due.is("hash of " + row[0] + " in mode " + mode, Due.hex(x, 7), row[1 + mode]);
            }
        }
    }

    private static void longOutputs() {
        for (String[] row : LONG_OUTPUTS) {
            TreeHashes x = hashing(Integer.parseInt(row[0]), Integer.parseInt(row[1]));
            x.output(3, 7, 131, 0);
            due.is("131 bytes of " + row[0] + " in mode " + row[1], Due.hex(x, 7), row[2]);
        }
    }

    /** Pieces of the same long outputs, up to and over the end of sixteen words. */
    private static void outputsFromAnyPlace() {
        int[][] pieces = {{0, 1}, {1, 63}, {1, 64}, {63, 1}, {63, 2}, {64, 64}, {65, 66}, {127, 4}, {128, 3}, {130, 1}};
        for (String[] row : LONG_OUTPUTS) {
            for (int[] piece : pieces) {
                TreeHashes x = hashing(Integer.parseInt(row[0]), Integer.parseInt(row[1]));
                x.output(3, 7, piece[1], piece[0]);
                String want = row[2].substring(2 * piece[0], 2 * (piece[0] + piece[1]));
                due.is(piece[1] + " bytes of " + row[0] + " from " + piece[0] + " on", Due.hex(x, 7), want);
            }
        }
    }

    /** The root of a file is the hash of its bytes in mode 0, and every chunk's proof leads to it. */
    private static void rootsOfFiles() {
        for (String[] row : HASHES) {
            int n = Integer.parseInt(row[0]);
            if (n <= 20000) {
                TreeHashes x = new TreeHashes();
                for (int had = 0; had < n; had += 251) {
                    x.grow(Math.min(251, n - had), 0, 1);
                }
                due.is("root of a file of " + n, x.root(0), n);
                due.is("root of a file of " + n, Due.hex(x, 0), row[1]);
                for (int c = 0; c < PlainTree.chunks(n); c++) {
                    x.prove(c);
                    due.is("check of chunk " + c + " of " + n, x.check(0, n, c), 1);
                }
            }
        }
    }
}
