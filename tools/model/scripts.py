import sys,os
sys.path.insert(0,__import__('os').path.dirname(__import__('os').path.abspath(__file__)))
import fuzz; from fuzz import *
def run(name,seeds,calls,w,mode):
    fuzz.MODE=mode
    for seed in seeds:
        R.seed(seed); m=Model(); sc=[('N','N')]; gen(m,sc,calls,w)
        with open('tests/scripts/%s%d.txt'%(name,seed),'w',encoding='ascii') as f:
            for l,e in sc:
                if l.startswith('T '):
                    t=l[2:]
                    if any(not 33<=ord(c)<127 for c in t): l='H '+t.encode('latin1').hex()
                f.write(l+' -> '+e+'\n')
Model.MAXN=7
run('all',range(90001,90013),60,BASE,'')
W={k:0 for k in BASE}; W.update({'witness':5,'common':3,'least':2,'isPlain':2,'small':3,'putSmall':6,'refuted':5,'shrink':5,'begin':3,'infer':2,'put':5,'isOf':4})
run('shapes',range(91001,91007),50,W,'simple')
W={k:0 for k in BASE}; W.update({'change':10,'conv2':8,'rewrite':8,'merge':5,'conflicts':3,'losses':4,'write':3,'read':3,'move':2,'begin':1,'put':2})
run('versions',range(92001,92011),60,W,'')
import union; union.use()
W={k:0 for k in BASE}; W.update({'change':12,'rewrite':12,'conv2':6,'merge':3,'conflicts':3,'losses':2,'query':4,'shapeOf':2})
run('unions',range(93001,93011),45,W,'')
